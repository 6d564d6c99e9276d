theorem kl_nI {k : Nat} (h : k < 2 ^ 31) : (nI k).toInt = (k : Int) := nI_toInt (by omega)
set_option maxHeartbeats 4000000 in
set_option maxRecDepth 100000 in
theorem law_loop {p : Program} {l : Launch} {e : Env} {s : State} {m : MethodId} {args : Array Value} {below : List Frame} {meth : Method} {c : Code} {Q : State → Prop} {dC : Nat → ClassId} {dI : Nat → Nat → Nat} {cI cZ cL : ClassId} {b L : Nat} {xs : Nat → Int32} {h h2 o : Nat} {a a2 : Nat → Nat} (hC : CallFix p m c cL_law 7 s args wsL_law RL) (hl0 : l.stackTraces = false) (hX : va_X b L xs s s.heap) (hbl : b < s.heap.size) (hL : L ≤ 2560) (hK : va_K (dC, dI) vwCl (kT3 cI cZ cL) s) (hNs : kN s) (hZ : kZ (fun q : Nat => s.heap.size ≤ q) s s.heap) (hexit : (∀ (H : Heap) (ls : Array Slot), W p l e room_1 s m args below meth c H [] 1052 8398 Q (F0 m 1222 ls [.int 1]))) : ∀ (j t n : Nat) (qph : AR) (qgr : AR) (qne : AR) (qap : AR) (qle : AR) (qfu : AR) (qpc : Int32) (qgd : Int32) (qri : Int32) (qnw : Int32) (qtk : Int32) (qsv : Int32) (qwa : AR) (qgi : AR) (qlo : AR) (qtu : AR) (rpt : Int32) (rph : AR) (rgr : AR) (rca : AR) (rne : AR) (rap : AR) (rle : AR) (rfu : AR) (rba : Int32) (rru : Int32) (rti : Int32) (rtk : Int32) (rsv : Int32) (rgi : AR) (rpa : AR) (rth : Int32) (og : Nat → Int64), t + j = 513 → 5 * t ≤ L → Rel t n qph qgr qne qap qle qfu qpc qgd qri qnw qtk qsv rpt rph rgr rca rne rap rle rfu rba rru rti rtk rsv → ∀ (H : Heap) (locs : List Loc) (ls : Array Slot), va_P (dC, dI) vwCl ((xW cI cZ h a qph qgr qne qap qle qfu qpc qgd qri qnw qtk qsv qwa qgi qlo qtu ++ oW cL o og) ++ mW cI cZ h2 a2 rpt rph rgr rca rne rap rle rfu rba rru rti rtk rsv rgi rpa rth) H → va_D (fun q : Nat => s.heap.size ≤ q) ((xW cI cZ h a qph qgr qne qap qle qfu qpc qgd qri qnw qtk qsv qwa qgi qlo qtu ++ oW cL o og) ++ mW cI cZ h2 a2 rpt rph rgr rca rne rap rle rfu rba rru rti rtk rsv rgi rpa rth) → va_S (fun q : Nat => s.heap.size ≤ q) s.heap H locs → lv_has ls 7 [(0, .ref b), (1, .ref h), (2, .ref h2), (3, .ref o), (4, .int (nI (5 * t)))] → W p l e room_1 s m args below meth c H locs (22 + t) (170 + 6 * t) Q (F0 m 23 ls []) := by
  obtain ⟨hx, hb, hml, hown, hts⟩ := id hC
  intro j; induction j with
  | zero => intro t n _ _ _ _ _ _ _ _ _ _ _ _ _ _ _ _ _ _ _ _ _ _ _ _ _ _ _ _ _ _ _ _ og hj h5; omega
  | succ j ih =>
    intro t n qph qgr qne qap qle qfu qpc qgd qri qnw qtk qsv qwa qgi qlo qtu rpt rph rgr rca rne rap rle rfu rba rru rti rtk rsv rgi rpa rth og hj h5 hR H locs ls hP hD hS hl
    have ht5 : t ≤ 512 := by omega
    refine lv_iload hx hb dL_law_23 (lv_at hl 4 rfl) ?_
    refine lv_aload_n hx hb dL_law_25 rfl (lv_at hl 0 rfl) ?_
    refine va_slen hx hb hX hbl (fun h => absurd h (Nat.not_le.mpr hbl)) hS dL_law_26 ?_
    refine lv_iconst (v := 5) hx hb dL_law_27 (by decide) ?_
    refine lv_isub hx hb dL_law_28 ?_
    have e0 : (Int32.ofNat L - 5).toInt = (L : Int) - 5 := pk_sub_toInt (a := L) (b := 5) (by omega) (by decide)
    have e1 : (nI (5 * t)).toInt = ((5 * t : Nat) : Int) := kl_nI (by omega)
    refine lv_icmp_gt (tgt := 1221) hx hb dL_law_29 (by decide) (fun _ => ?_) (fun hlt => ?_)
    · refine lv_iconst (v := 1) hx hb dL_law_1221 (by decide) ?_
      refine W.widen (k := 1052) (n := 8398) (by omega) (by omega) ?_
      exact va_forget hS.2.2 (hexit _ _)
    have h55 : 5 * t + 5 ≤ L := by rw [Int32.lt_iff_toInt_lt, e0, e1] at hlt; omega
    have ht : t < 512 := by omega
    have htL : 5 * t + 4 < L := by omega
    refine lv_aload_n hx hb dL_law_32 rfl (lv_at hl 0 rfl) ?_
    refine lv_iload hx hb dL_law_33 (lv_at hl 4 rfl) ?_
    refine kl_sld hx hb hX hbl hS (t := t) (k := 0) rfl (by omega) hL dL_law_35 ?_
    refine lv_bipush (v := 31) hx hb dL_law_36 (by decide) ?_
    refine lv_iand hx hb dL_law_38 ?_
    obtain ⟨cs, hcs, ecs⟩ := pk_andE (xs (5 * t + 0)) (m := 31) 5 rfl
    rw [ecs]
    have next : (∀ (n : Nat) (qph : AR) (qgr : AR) (qne : AR) (qap : AR) (qle : AR) (qfu : AR) (qpc : Int32) (qgd : Int32) (qri : Int32) (qnw : Int32) (qtk : Int32) (qsv : Int32) (qwa : AR) (qgi : AR) (qlo : AR) (qtu : AR) (rpt : Int32) (rph : AR) (rgr : AR) (rca : AR) (rne : AR) (rap : AR) (rle : AR) (rfu : AR) (rba : Int32) (rru : Int32) (rti : Int32) (rtk : Int32) (rsv : Int32) (rgi : AR) (rpa : AR) (rth : Int32) (og : Nat → Int64), Rel (t + 1) n qph qgr qne qap qle qfu qpc qgd qri qnw qtk qsv rpt rph rgr rca rne rap rle rfu rba rru rti rtk rsv → ∀ (H : Heap) (locs : List Loc) (ls : Array Slot), va_P (dC, dI) vwCl ((xW cI cZ h a qph qgr qne qap qle qfu qpc qgd qri qnw qtk qsv qwa qgi qlo qtu ++ oW cL o og) ++ mW cI cZ h2 a2 rpt rph rgr rca rne rap rle rfu rba rru rti rtk rsv rgi rpa rth) H → va_D (fun q : Nat => s.heap.size ≤ q) ((xW cI cZ h a qph qgr qne qap qle qfu qpc qgd qri qnw qtk qsv qwa qgi qlo qtu ++ oW cL o og) ++ mW cI cZ h2 a2 rpt rph rgr rca rne rap rle rfu rba rru rti rtk rsv rgi rpa rth) → va_S (fun q : Nat => s.heap.size ≤ q) s.heap H locs → lv_has ls 7 [(0, .ref b), (1, .ref h), (2, .ref h2), (3, .ref o), (4, .int (nI (5 * (t + 1))))] → W p l e room_1 s m args below meth c H locs (22 + (t + 1)) (170 + 6 * (t + 1)) Q (F0 m 23 ls [])) := by
      intro n qph qgr qne qap qle qfu qpc qgd qri qnw qtk qsv qwa qgi qlo qtu rpt rph rgr rca rne rap rle rfu rba rru rti rtk rsv rgi rpa rth og hR H locs ls hP hD hS hl
      exact ih (t + 1) n qph qgr qne qap qle qfu qpc qgd qri qnw qtk qsv qwa qgi qlo qtu rpt rph rgr rca rne rap rle rfu rba rru rti rtk rsv rgi rpa rth og (by omega) (by omega) hR H locs ls hP hD hS hl
    clear ih hlt e0 e1 ecs
    by_cases c0 : cs = 0
    · subst c0
      refine lv_tableIn (tgt := 144) (off := 105) hx hb dL_law_39 (by decide) (by decide) (by decide) (by decide) ?_
      exact case_point hC hl0 hX hbl hL hK hNs hZ ht htL hR next hP hD hS hl
    by_cases c1 : cs = 1
    · subst c1
      refine lv_tableIn (tgt := 212) (off := 173) hx hb dL_law_39 (by decide) (by decide) (by decide) (by decide) ?_
      exact case_fuse hC hl0 hX hbl hL hK hNs hZ ht htL hR next hP hD hS hl
    by_cases c2 : cs = 2
    · subst c2
      refine lv_tableIn (tgt := 280) (off := 241) hx hb dL_law_39 (by decide) (by decide) (by decide) (by decide) ?_
      exact case_balance hC hl0 hX hbl hL hK hNs hZ ht htL hR next hP hD hS hl
    by_cases c3 : cs = 3
    · subst c3
      refine lv_tableIn (tgt := 336) (off := 297) hx hb dL_law_39 (by decide) (by decide) (by decide) (by decide) ?_
      exact case_rule hC hl0 hX hbl hL hK hNs hZ ht htL hR next hP hD hS hl
    by_cases c4 : cs = 4
    · subst c4
      refine lv_tableIn (tgt := 392) (off := 353) hx hb dL_law_39 (by decide) (by decide) (by decide) (by decide) ?_
      exact case_plugIn hC hl0 hX hbl hL hK hNs hZ ht htL hR next hP hD hS hl
    by_cases c5 : cs = 5
    · subst c5
      refine lv_tableIn (tgt := 484) (off := 445) hx hb dL_law_39 (by decide) (by decide) (by decide) (by decide) ?_
      exact case_takeOut hC hl0 hX hbl hL hK hNs hZ ht htL hR next hP hD hS hl
    by_cases c6 : cs = 6
    · subst c6
      refine lv_tableIn (tgt := 540) (off := 501) hx hb dL_law_39 (by decide) (by decide) (by decide) (by decide) ?_
      exact case_appetite hC hl0 hX hbl hL hK hNs hZ ht htL hR next hP hD hS hl
    by_cases c7 : cs = 7
    · subst c7
      refine lv_tableIn (tgt := 608) (off := 569) hx hb dL_law_39 (by decide) (by decide) (by decide) (by decide) ?_
      exact case_stay hC hl0 hX hbl hL hK hNs hZ ht htL hR next hP hD hS hl
    by_cases c8 : cs = 8
    · subst c8
      refine lv_tableIn (tgt := 676) (off := 637) hx hb dL_law_39 (by decide) (by decide) (by decide) (by decide) ?_
      exact case_step hC hl0 hX hbl hL hK hNs hZ ht htL hR next hP hD hS hl
    by_cases c9 : cs = 9
    · subst c9
      refine lv_tableIn (tgt := 732) (off := 693) hx hb dL_law_39 (by decide) (by decide) (by decide) (by decide) ?_
      exact case_time hC hl0 hX hbl hL hK hNs hZ ht htL hR next hP hD hS hl
    by_cases c10 : cs = 10
    · subst c10
      refine lv_tableIn (tgt := 745) (off := 706) hx hb dL_law_39 (by decide) (by decide) (by decide) (by decide) ?_
      exact case_points hC hl0 hX hbl hL hK hNs hZ ht htL hR next hP hD hS hl
    by_cases c11 : cs = 11
    · subst c11
      refine lv_tableIn (tgt := 758) (off := 719) hx hb dL_law_39 (by decide) (by decide) (by decide) (by decide) ?_
      exact case_taken hC hl0 hX hbl hL hK hNs hZ ht htL hR next hP hD hS hl
    by_cases c12 : cs = 12
    · subst c12
      refine lv_tableIn (tgt := 771) (off := 732) hx hb dL_law_39 (by decide) (by decide) (by decide) (by decide) ?_
      exact case_served hC hl0 hX hbl hL hK hNs hZ ht htL hR next hP hD hS hl
    by_cases c13 : cs = 13
    · subst c13
      refine lv_tableIn (tgt := 784) (off := 745) hx hb dL_law_39 (by decide) (by decide) (by decide) (by decide) ?_
      exact case_need hC hl0 hX hbl hL hK hNs hZ ht htL hR next hP hD hS hl
    by_cases c14 : cs = 14
    · subst c14
      refine lv_tableIn (tgt := 840) (off := 801) hx hb dL_law_39 (by decide) (by decide) (by decide) (by decide) ?_
      exact case_left hC hl0 hX hbl hL hK hNs hZ ht htL hR next hP hD hS hl
    by_cases c15 : cs = 15
    · subst c15
      refine lv_tableIn (tgt := 896) (off := 857) hx hb dL_law_39 (by decide) (by decide) (by decide) (by decide) ?_
      exact case_laxity hC hl0 hX hbl hL hK hNs hZ ht htL hR next hP hD hS hl
    by_cases c16 : cs = 16
    · subst c16
      refine lv_tableIn (tgt := 952) (off := 913) hx hb dL_law_39 (by decide) (by decide) (by decide) (by decide) ?_
      exact case_reach hC hl0 hX hbl hL hK hNs hZ ht htL hR next hP hD hS hl
    by_cases c17 : cs = 17
    · subst c17
      refine lv_tableIn (tgt := 1008) (off := 969) hx hb dL_law_39 (by decide) (by decide) (by decide) (by decide) ?_
      exact case_current hC hl0 hX hbl hL hK hNs hZ ht htL hR next hP hD hS hl
    by_cases c18 : cs = 18
    · subst c18
      refine lv_tableIn (tgt := 1064) (off := 1025) hx hb dL_law_39 (by decide) (by decide) (by decide) (by decide) ?_
      exact case_load hC hl0 hX hbl hL hK hNs hZ ht htL hR next hP hD hS hl
    by_cases c19 : cs = 19
    · subst c19
      refine lv_tableIn (tgt := 1120) (off := 1081) hx hb dL_law_39 (by decide) (by decide) (by decide) (by decide) ?_
      exact case_imbalance hC hl0 hX hbl hL hK hNs hZ ht htL hR next hP hD hS hl
    by_cases c20 : cs = 20
    · subst c20
      refine lv_tableIn (tgt := 1133) (off := 1094) hx hb dL_law_39 (by decide) (by decide) (by decide) (by decide) ?_
      exact case_held hC hl0 hX hbl hL hK hNs hZ ht htL hR next hP hD hS hl
    by_cases c21 : cs = 21
    · subst c21
      refine lv_tableIn (tgt := 1146) (off := 1107) hx hb dL_law_39 (by decide) (by decide) (by decide) (by decide) ?_
      exact case_fairLevel hC hl0 hX hbl hL hK hNs hZ ht htL hR next hP hD hS hl
    by_cases c22 : cs = 22
    · subst c22
      refine lv_tableIn (tgt := 1202) (off := 1163) hx hb dL_law_39 (by decide) (by decide) (by decide) (by decide) ?_
      exact case_canBeReady hC hl0 hX hbl hL hK hNs hZ ht htL hR next hP hD hS hl
    refine lv_tableOut (tgt := 1215) hx hb dL_law_39 (Or.inr (by rw [kl_nI (by omega)]; omega)) (by decide) ?_
    refine lv_iinc (v := (nI (5 * (t + 1)))) (lv' := [(4, .int (nI (5 * (t + 1)))), (0, .ref b), (1, .ref h), (2, .ref h2), (3, .ref o)]) hx hb dL_law_1215 hl (k := 4) rfl (nI_add (5 * t) 5) (by decide) rfl (fun ls hl => ?_)
    refine lv_goto (tgt := 23) hx hb dL_law_1218 (by decide) ?_
    refine W.widen (k := 22 + (t + 1)) (n := 170 + 6 * (t + 1)) (by omega) (by omega) ?_
    exact next n qph qgr qne qap qle qfu qpc qgd qri qnw qtk qsv qwa qgi qlo qtu rpt rph rgr rca rne rap rle rfu rba rru rti rtk rsv rgi rpa rth og (Rel.up hR) H locs ls hP hD hS (lv_sub hl [1, 2, 3, 4, 0] rfl)
