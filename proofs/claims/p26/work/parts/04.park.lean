def X0_startShares_L36  (n : Nat) : Nat → Nat → AR → AR
  | 0, k, vlo => vlo
  | j + 1, k, vlo => X0_startShares_L36 n  j (k + 1) (upd vlo (nI k).toNatClampNeg 0)
def X0_startShares_L2 (qph : AR) (qgr : AR) (qne : AR) (qap : AR) (qle : AR) (qnw : Int32) (n : Nat) : Nat → Nat → AR → AR → AR × AR
  | 0, k, vwa, vgi => (vwa, vgi)
  | j + 1, k, vwa, vgi => X0_startShares_L2 qph qgr qne qap qle qnw n  j (k + 1) (upd vwa (nI k).toNatClampNeg (X0_reachAt qph qgr qne qap qle qnw (nI k))) (upd vgi (nI k).toNatClampNeg 0)
def X0_startShares (qph : AR) (qgr : AR) (qne : AR) (qap : AR) (qle : AR) (qnw : Int32) (qwa : AR) (qgi : AR) (qlo : AR) (n : Nat) : AR × AR × AR := (((X0_startShares_L2 qph qgr qne qap qle qnw n  n 0 qwa qgi).1), ((X0_startShares_L2 qph qgr qne qap qle qnw n  n 0 qwa qgi).2), ((X0_startShares_L36 n  3 0 qlo)))
abbrev rmX0_startShares : Room := { frames := 3, cells := 0, slots := 0, locals := 56 }
theorem hd_X0_startShares : yX0_startShares.cls = RX0 ∧ yX0_startShares.cls ≠ "java/lang/invoke/MethodHandle" ∧ yX0_startShares.cls ≠ "java/lang/invoke/VarHandle" ∧ (parseMethodDescriptor yX0_startShares.desc).map (fun d => d.parameters.length) = some 0 := by decide +kernel
set_option maxHeartbeats 4000000 in
set_option maxRecDepth 100000 in
theorem c_X0_startShares (l : Launch) (dC : Nat → ClassId) (dI : Nat → Nat → Nat) (cI cZ : ClassId) (h : Nat) (a : Nat → Nat) (qph : AR) (qgr : AR) (qne : AR) (qap : AR) (qle : AR) (qfu : AR) (qpc : Int32) (qgd : Int32) (qri : Int32) (qnw : Int32) (qtk : Int32) (qsv : Int32) (qwa : AR) (qgi : AR) (qlo : AR) (qtu : AR) (n : Nat) (hpc : qpc = nI n) (hn : n ≤ 8) : Kv l yX0_startShares wsX0_startShares rmX0_startShares dC dI cI cZ [.ref h] (xW cI cZ h a qph qgr qne qap qle qfu qpc qgd qri qnw qtk qsv qwa qgi qlo qtu) (xW cI cZ h a qph qgr qne qap qle qfu qpc qgd qri qnw qtk qsv ((X0_startShares qph qgr qne qap qle qnw qwa qgi qlo n).1) ((X0_startShares qph qgr qne qap qle qnw qwa qgi qlo n).2.1) ((X0_startShares qph qgr qne qap qle qnw qwa qgi qlo n).2.2) qtu) := by
  refine k_enter_v (cc := cX0_startShares) (maxL := 2) (ret := none) (by decide) rfl (Nat.le_of_ble_eq_true rfl) ?_
  intro p e s m below meth c A ls hC hr hlocks hK hP hD hS hA hl
  generalize List.toArray _ = args at hC ⊢
  obtain ⟨hx, hb, hml, hown, hts⟩ := id hC
  have hret : ∀ (H : Heap) (locs : List Loc) (pc : Nat) (ls : Array Slot), va_S A s.heap H locs → va_P (dC, dI) vwCl (xW cI cZ h a qph qgr qne qap qle qfu qpc qgd qri qnw qtk qsv ((X0_startShares qph qgr qne qap qle qnw qwa qgi qlo n).1) ((X0_startShares qph qgr qne qap qle qnw qwa qgi qlo n).2.1) ((X0_startShares qph qgr qne qap qle qnw qwa qgi qlo n).2.2) qtu) H → va_D A (xW cI cZ h a qph qgr qne qap qle qfu qpc qgd qri qnw qtk qsv ((X0_startShares qph qgr qne qap qle qnw qwa qgi qlo n).1) ((X0_startShares qph qgr qne qap qle qnw qwa qgi qlo n).2.1) ((X0_startShares qph qgr qne qap qle qnw qwa qgi qlo n).2.2) qtu) → decode cX0_startShares pc = .ok (.return_, 1) → W p l e rmX0_startShares s m args below meth c H locs 0 0 (MQ below (va_Qv (fun (_ : Unit) => True) (kBeh dC dI A (xW cI cZ h a qph qgr qne qap qle qfu qpc qgd qri qnw qtk qsv ((X0_startShares qph qgr qne qap qle qnw qwa qgi qlo n).1) ((X0_startShares qph qgr qne qap qle qnw qwa qgi qlo n).2.1) ((X0_startShares qph qgr qne qap qle qnw qwa qgi qlo n).2.2) qtu)) A) args s 0 0 A) (F0 m pc ls []) := fun H locs pc ls hS hP hD d => k_vret hx hb hr hlocks hS hP hD d
  generalize MQ below _ _ _ _ _ _ = Q at hret ⊢
  have hin : ∀ w ∈ wsX00, w ∈ wsX0_startShares := by decide +kernel
  have hw0 := hts (.fieldLink RX0 34 "ChargePark" "loadOf" "[I") (by decide +kernel)
  have hw1 := hts (.fieldLink RX0 55 "ChargePark" "pointCount" "I") (by decide +kernel)
  have hw2 := hts (.fieldLink RX0 28 "ChargePark" "given" "[I") (by decide +kernel)
  have hw3 := hts (.fieldLink RX0 25 "ChargePark" "wanted" "[I") (by decide +kernel)
  have hl : lv_has ls 2 [(0, .ref h)] := hl
  have hP : va_P (dC, dI) vwCl (xW cI cZ h a qph qgr qne qap qle qfu qpc qgd qri qnw qtk qsv qwa qgi qlo qtu) s.heap := hP
  have hW : ∀ (H : Heap) (locs : List Loc), va_P (dC, dI) vwCl (xW cI cZ h a qph qgr qne qap qle qfu qpc qgd qri qnw qtk qsv qwa qgi qlo qtu) H → va_D A (xW cI cZ h a qph qgr qne qap qle qfu qpc qgd qri qnw qtk qsv qwa qgi qlo qtu) → va_S A s.heap H locs → W p l e rmX0_startShares s m args below meth c H locs 0 0 Q (F0 m 0 ls []) := by
    intro H locs hP hD hS
    refine lv_iconst (v := 0) hx hb dX0_startShares_0 (by decide) ?_
    refine lv_istore_n (lv' := [(1, .int 0), (0, .ref h)]) hx hb dX0_startShares_1 rfl hl (by decide) rfl (fun ls hl => ?_)
    have cont2 : ∀ (z1 : AR), z1 = (X0_startShares_L2 qph qgr qne qap qle qnw n  n 0 qwa qgi).1 → ∀ (z2 : AR), z2 = (X0_startShares_L2 qph qgr qne qap qle qnw n  n 0 qwa qgi).2 → ∀ (H : Heap) (locs : List Loc) (ls : Array Slot), va_P (dC, dI) vwCl (xW cI cZ h a qph qgr qne qap qle qfu qpc qgd qri qnw qtk qsv z1 z2 qlo qtu) H → va_D A (xW cI cZ h a qph qgr qne qap qle qfu qpc qgd qri qnw qtk qsv z1 z2 qlo qtu) → va_S A s.heap H locs → lv_has ls 2 [(0, .ref h)] → W p l e rmX0_startShares s m args below meth c H locs 0 0 Q (F0 m 34 ls []) := by
      intro z1 hz1 z2 hz2 H locs ls hP hD hS hl
      refine lv_iconst (v := 0) hx hb dX0_startShares_34 (by decide) ?_
      refine lv_istore_n (lv' := [(1, .int 0), (0, .ref h)]) hx hb dX0_startShares_35 rfl hl (by decide) rfl (fun ls hl => ?_)
      have cont36 : ∀ (z3 : AR), z3 = (X0_startShares_L36 n  3 0 qlo) → ∀ (H : Heap) (locs : List Loc) (ls : Array Slot), va_P (dC, dI) vwCl (xW cI cZ h a qph qgr qne qap qle qfu qpc qgd qri qnw qtk qsv z1 z2 z3 qtu) H → va_D A (xW cI cZ h a qph qgr qne qap qle qfu qpc qgd qri qnw qtk qsv z1 z2 z3 qtu) → va_S A s.heap H locs → lv_has ls 2 [(0, .ref h)] → W p l e rmX0_startShares s m args below meth c H locs 0 0 Q (F0 m 54 ls []) := by
        intro z3 hz3 H locs ls hP hD hS hl
        have hP9 := hP; have hD9 := hD
        subst hz1 hz2 hz3
        have hP8 : va_P (dC, dI) vwCl (xW cI cZ h a qph qgr qne qap qle qfu qpc qgd qri qnw qtk qsv ((X0_startShares qph qgr qne qap qle qnw qwa qgi qlo n).1) ((X0_startShares qph qgr qne qap qle qnw qwa qgi qlo n).2.1) ((X0_startShares qph qgr qne qap qle qnw qwa qgi qlo n).2.2) qtu) H := by rw [X0_startShares]; exact hP9
        have hD8 : va_D A (xW cI cZ h a qph qgr qne qap qle qfu qpc qgd qri qnw qtk qsv ((X0_startShares qph qgr qne qap qle qnw qwa qgi qlo n).1) ((X0_startShares qph qgr qne qap qle qnw qwa qgi qlo n).2.1) ((X0_startShares qph qgr qne qap qle qnw qwa qgi qlo n).2.2) qtu) := by rw [X0_startShares]; exact hD9
        exact hret H locs 54 ls hS hP8 hD8 dX0_startShares_54
      have loop36 : ∀ (j k : Nat) (vlo : AR), k + j = 3 → X0_startShares_L36 n  j k vlo = (X0_startShares_L36 n  3 0 qlo) → ∀ (H : Heap) (locs : List Loc) (ls : Array Slot), va_P (dC, dI) vwCl (xW cI cZ h a qph qgr qne qap qle qfu qpc qgd qri qnw qtk qsv z1 z2 vlo qtu) H → va_D A (xW cI cZ h a qph qgr qne qap qle qfu qpc qgd qri qnw qtk qsv z1 z2 vlo qtu) → va_S A s.heap H locs → lv_has ls 2 [(0, .ref h), (1, .int (nI k))] → W p l e rmX0_startShares s m args below meth c H locs 0 0 Q (F0 m 36 ls []) := by
        intro j
        induction j with
        | zero =>
          intro k vlo hk hR  H locs ls hP hD hS hl
          refine lv_iload_n hx hb dX0_startShares_36 rfl (lv_at hl 1 rfl) ?_
          refine lv_iconst (v := 3) hx hb dX0_startShares_37 (by decide) ?_
          refine lv_icmp_ge (tgt := 54) hx hb dX0_startShares_38 (by decide) (fun _ => ?_) (fun c => absurd (by rw [nIl3]; exact nI_le (by omega) (by omega)) c)
          have hP9 := hP; have hD9 := hD; have hl9 := hl; have hR9 := hR
          subst hz1 hz2
          exact cont36 vlo (by rw [← hR9, X0_startShares_L36]) H locs ls hP9 hD9 hS (lv_sub hl9 [0] rfl)
        | succ j ih =>
          intro k vlo hk hR  H locs ls hP hD hS hl
          refine lv_iload_n hx hb dX0_startShares_36 rfl (lv_at hl 1 rfl) ?_
          refine lv_iconst (v := 3) hx hb dX0_startShares_37 (by decide) ?_
          refine lv_icmp_ge (tgt := 54) hx hb dX0_startShares_38 (by decide) (fun c => absurd c (by rw [nIl3]; exact nI_ge (by omega) (by omega))) (fun _ => ?_)
          refine lv_aload_n hx hb dX0_startShares_41 rfl (lv_at hl 0 rfl) ?_
          refine va_get (D := (dC, dI)) (ci := 0) (v := .ref (a 14)) (C := RX0) (T := TX0) (N := 16) hx hb hts hin hown hK hP 0 rfl rfl 14 (by decide) hw0 (fun _ h9 => h9) rfl dX0_startShares_42 ?_
          refine lv_iload_n hx hb dX0_startShares_45 rfl (lv_at hl 1 rfl) ?_
          refine lv_iconst (v := 0) hx hb dX0_startShares_46 (by decide) ?_
          refine va_iast (f := vlo) hx hb hK hP hD hS 9 0 rfl rfl (vp_in_nI (by omega) (by decide)) dX0_startShares_47 (fun H locs hP hD hS => ?_)
          obtain ⟨z4, hz4⟩ : ∃ z : AR, z = (upd vlo (nI k).toNatClampNeg 0) := ⟨_, rfl⟩
          rw [← hz4] at hP hD
          have hP : va_P (dC, dI) vwCl (xW cI cZ h a qph qgr qne qap qle qfu qpc qgd qri qnw qtk qsv z1 z2 z4 qtu) H := hP
          have hD : va_D A (xW cI cZ h a qph qgr qne qap qle qfu qpc qgd qri qnw qtk qsv z1 z2 z4 qtu) := hD
          refine lv_iinc (v := (nI (k + 1))) (lv' := [(1, .int (nI (k + 1))), (0, .ref h)]) hx hb dX0_startShares_48 hl (k := 1) rfl (nI_1 k) (by decide) rfl (fun ls hl => ?_)
          refine lv_goto (tgt := 36) hx hb dX0_startShares_51 (by decide) ?_
          have hP9 := hP; have hD9 := hD; have hl9 := hl; have hR9 := hR; have ih9 := ih
          subst hz1 hz2 hz4
          exact ih9 (k + 1) (upd vlo (nI k).toNatClampNeg 0) (by omega) (by rw [← hR9, X0_startShares_L36])  H locs ls hP9 hD9 hS (lv_sub hl9 [1, 0] rfl)
      exact loop36 3 0 qlo (by omega) rfl  H locs ls hP hD hS (lv_sub hl [1, 0] rfl)
    have loop2 : ∀ (j k : Nat) (vwa : AR) (vgi : AR), k + j = n → X0_startShares_L2 qph qgr qne qap qle qnw n  j k vwa vgi = (X0_startShares_L2 qph qgr qne qap qle qnw n  n 0 qwa qgi) → ∀ (H : Heap) (locs : List Loc) (ls : Array Slot), va_P (dC, dI) vwCl (xW cI cZ h a qph qgr qne qap qle qfu qpc qgd qri qnw qtk qsv vwa vgi qlo qtu) H → va_D A (xW cI cZ h a qph qgr qne qap qle qfu qpc qgd qri qnw qtk qsv vwa vgi qlo qtu) → va_S A s.heap H locs → lv_has ls 2 [(0, .ref h), (1, .int (nI k))] → W p l e rmX0_startShares s m args below meth c H locs 0 0 Q (F0 m 2 ls []) := by
      intro j
      induction j with
      | zero =>
        intro k vwa vgi hk hR  H locs ls hP hD hS hl
        refine lv_iload_n hx hb dX0_startShares_2 rfl (lv_at hl 1 rfl) ?_
        refine lv_aload_n hx hb dX0_startShares_3 rfl (lv_at hl 0 rfl) ?_
        refine va_get (D := (dC, dI)) (ci := 0) (v := .int qpc) (C := RX0) (T := TX0) (N := 16) hx hb hts hin hown hK hP 0 rfl rfl 6 (by decide) hw1 (fun _ h9 => h9) rfl dX0_startShares_4 ?_
        refine lv_icmp_ge (tgt := 34) hx hb dX0_startShares_7 (by decide) (fun _ => ?_) (fun c => absurd (by rw [hpc]; exact nI_le (by omega) (by omega)) c)
        exact cont2 vwa (by rw [← hR, X0_startShares_L2]) vgi (by rw [← hR, X0_startShares_L2]) H locs ls hP hD hS (lv_sub hl [0] rfl)
      | succ j ih =>
        intro k vwa vgi hk hR  H locs ls hP hD hS hl
        refine lv_iload_n hx hb dX0_startShares_2 rfl (lv_at hl 1 rfl) ?_
        refine lv_aload_n hx hb dX0_startShares_3 rfl (lv_at hl 0 rfl) ?_
        refine va_get (D := (dC, dI)) (ci := 0) (v := .int qpc) (C := RX0) (T := TX0) (N := 16) hx hb hts hin hown hK hP 0 rfl rfl 6 (by decide) hw1 (fun _ h9 => h9) rfl dX0_startShares_4 ?_
        refine lv_icmp_ge (tgt := 34) hx hb dX0_startShares_7 (by decide) (fun c => absurd c (by rw [hpc]; exact nI_ge (by omega) (by omega))) (fun _ => ?_)
        refine lv_aload_n hx hb dX0_startShares_10 rfl (lv_at hl 0 rfl) ?_
        refine va_get (D := (dC, dI)) (ci := 0) (v := .ref (a 13)) (C := RX0) (T := TX0) (N := 16) hx hb hts hin hown hK hP 0 rfl rfl 13 (by decide) hw2 (fun _ h9 => h9) rfl dX0_startShares_11 ?_
        refine lv_iload_n hx hb dX0_startShares_14 rfl (lv_at hl 1 rfl) ?_
        refine lv_iconst (v := 0) hx hb dX0_startShares_15 (by decide) ?_
        refine va_iast (f := vgi) hx hb hK hP hD hS 8 0 rfl rfl (vp_in_nI (by omega) (by decide)) dX0_startShares_16 (fun H locs hP hD hS => ?_)
        obtain ⟨z5, hz5⟩ : ∃ z : AR, z = (upd vgi (nI k).toNatClampNeg 0) := ⟨_, rfl⟩
        rw [← hz5] at hP hD
        have hP : va_P (dC, dI) vwCl (xW cI cZ h a qph qgr qne qap qle qfu qpc qgd qri qnw qtk qsv vwa z5 qlo qtu) H := hP
        have hD : va_D A (xW cI cZ h a qph qgr qne qap qle qfu qpc qgd qri qnw qtk qsv vwa z5 qlo qtu) := hD
        refine lv_aload_n hx hb dX0_startShares_17 rfl (lv_at hl 0 rfl) ?_
        refine va_get (D := (dC, dI)) (ci := 0) (v := .ref (a 12)) (C := RX0) (T := TX0) (N := 16) hx hb hts hin hown hK hP 0 rfl rfl 12 (by decide) hw3 (fun _ h9 => h9) rfl dX0_startShares_18 ?_
        refine lv_iload_n hx hb dX0_startShares_21 rfl (lv_at hl 1 rfl) ?_
        refine lv_aload_n hx hb dX0_startShares_22 rfl (lv_at hl 0 rfl) ?_
        refine lv_iload_n hx hb dX0_startShares_23 rfl (lv_at hl 1 rfl) ?_
        refine k_calli (rest := [.int (nI k), .ref (a 12)]) (q0 := 0) hC (c_X0_reachAt l dC dI cI cZ h a qph qgr qne qap qle qfu qpc qgd qri qnw qtk qsv vwa z5 qlo qtu  (nI k) (vp_in_nI (by omega) (by decide))) (cwV 1 hts gX0_startShares_X0_reachAt rfl rfl rfl hd_X0_reachAt ⟨Nat.le_of_ble_eq_true rfl, Nat.le_of_ble_eq_true rfl⟩) hK hP hD hS hA rfl rfl rfl hl.1 (Nat.le_of_ble_eq_true rfl) dX0_startShares_24 rfl ⟨Nat.zero_le _, Nat.zero_le _⟩ (fun H locs hP hD hS => ?_)
        refine va_iast (f := vwa) hx hb hK hP hD hS 7 0 rfl rfl (vp_in_nI (by omega) (by decide)) dX0_startShares_27 (fun H locs hP hD hS => ?_)
        obtain ⟨z6, hz6⟩ : ∃ z : AR, z = (upd vwa (nI k).toNatClampNeg (X0_reachAt qph qgr qne qap qle qnw (nI k))) := ⟨_, rfl⟩
        rw [← hz6] at hP hD
        have hP : va_P (dC, dI) vwCl (xW cI cZ h a qph qgr qne qap qle qfu qpc qgd qri qnw qtk qsv z6 z5 qlo qtu) H := hP
        have hD : va_D A (xW cI cZ h a qph qgr qne qap qle qfu qpc qgd qri qnw qtk qsv z6 z5 qlo qtu) := hD
        refine lv_iinc (v := (nI (k + 1))) (lv' := [(1, .int (nI (k + 1))), (0, .ref h)]) hx hb dX0_startShares_28 hl (k := 1) rfl (nI_1 k) (by decide) rfl (fun ls hl => ?_)
        refine lv_goto (tgt := 2) hx hb dX0_startShares_31 (by decide) ?_
        have hP9 := hP; have hD9 := hD; have hl9 := hl; have hR9 := hR; have ih9 := ih
        subst hz5 hz6
        exact ih9 (k + 1) (upd vwa (nI k).toNatClampNeg (X0_reachAt qph qgr qne qap qle qnw (nI k))) (upd vgi (nI k).toNatClampNeg 0) (by omega) (by rw [← hR9, X0_startShares_L2])  H locs ls hP9 hD9 hS (lv_sub hl9 [1, 0] rfl)
    exact loop2 n 0 qwa qgi (by omega) rfl  H locs ls hP hD hS (lv_sub hl [1, 0] rfl)
  exact hW _ _ hP hD hS
def X0_takeWhatIsGiven_L2 (qph : AR) (qgi : AR) (n : Nat) : Nat → Nat → AR → Int32 → AR × Int32
  | 0, k, vne, vtk => (vne, vtk)
  | j + 1, k, vne, vtk => (if (qgi (nI k).toNatClampNeg) ≤ 0 then X0_takeWhatIsGiven_L2 qph qgi n  j (k + 1) vne vtk else X0_takeWhatIsGiven_L2 qph qgi n  j (k + 1) (upd vne (nI k).toNatClampNeg ((vne (nI k).toNatClampNeg) - (if (vne (nI k).toNatClampNeg) < ((qgi (nI k).toNatClampNeg) * (X0_unitsPerAmpere qph (nI k))) then (vne (nI k).toNatClampNeg) else ((qgi (nI k).toNatClampNeg) * (X0_unitsPerAmpere qph (nI k)))))) (vtk + (if (vne (nI k).toNatClampNeg) < ((qgi (nI k).toNatClampNeg) * (X0_unitsPerAmpere qph (nI k))) then (vne (nI k).toNatClampNeg) else ((qgi (nI k).toNatClampNeg) * (X0_unitsPerAmpere qph (nI k))))))
def X0_takeWhatIsGiven (qph : AR) (qne : AR) (qtk : Int32) (qgi : AR) (n : Nat) : AR × Int32 := (((X0_takeWhatIsGiven_L2 qph qgi n  n 0 qne qtk).1), ((X0_takeWhatIsGiven_L2 qph qgi n  n 0 qne qtk).2))
abbrev rmX0_takeWhatIsGiven : Room := { frames := 1, cells := 0, slots := 0, locals := 21 }
theorem hd_X0_takeWhatIsGiven : yX0_takeWhatIsGiven.cls = RX0 ∧ yX0_takeWhatIsGiven.cls ≠ "java/lang/invoke/MethodHandle" ∧ yX0_takeWhatIsGiven.cls ≠ "java/lang/invoke/VarHandle" ∧ (parseMethodDescriptor yX0_takeWhatIsGiven.desc).map (fun d => d.parameters.length) = some 0 := by decide +kernel
set_option maxHeartbeats 4000000 in
set_option maxRecDepth 100000 in
theorem c_X0_takeWhatIsGiven (l : Launch) (dC : Nat → ClassId) (dI : Nat → Nat → Nat) (cI cZ : ClassId) (h : Nat) (a : Nat → Nat) (qph : AR) (qgr : AR) (qne : AR) (qap : AR) (qle : AR) (qfu : AR) (qpc : Int32) (qgd : Int32) (qri : Int32) (qnw : Int32) (qtk : Int32) (qsv : Int32) (qwa : AR) (qgi : AR) (qlo : AR) (qtu : AR) (n : Nat) (hpc : qpc = nI n) (hn : n ≤ 8) : Kv l yX0_takeWhatIsGiven wsX0_takeWhatIsGiven rmX0_takeWhatIsGiven dC dI cI cZ [.ref h] (xW cI cZ h a qph qgr qne qap qle qfu qpc qgd qri qnw qtk qsv qwa qgi qlo qtu) (xW cI cZ h a qph qgr ((X0_takeWhatIsGiven qph qne qtk qgi n).1) qap qle qfu qpc qgd qri qnw ((X0_takeWhatIsGiven qph qne qtk qgi n).2) qsv qwa qgi qlo qtu) := by
  refine k_enter_v (cc := cX0_takeWhatIsGiven) (maxL := 3) (ret := none) (by decide) rfl (Nat.le_of_ble_eq_true rfl) ?_
  intro p e s m below meth c A ls hC hr hlocks hK hP hD hS hA hl
  generalize List.toArray _ = args at hC ⊢
  obtain ⟨hx, hb, hml, hown, hts⟩ := id hC
  have hret : ∀ (H : Heap) (locs : List Loc) (pc : Nat) (ls : Array Slot), va_S A s.heap H locs → va_P (dC, dI) vwCl (xW cI cZ h a qph qgr ((X0_takeWhatIsGiven qph qne qtk qgi n).1) qap qle qfu qpc qgd qri qnw ((X0_takeWhatIsGiven qph qne qtk qgi n).2) qsv qwa qgi qlo qtu) H → va_D A (xW cI cZ h a qph qgr ((X0_takeWhatIsGiven qph qne qtk qgi n).1) qap qle qfu qpc qgd qri qnw ((X0_takeWhatIsGiven qph qne qtk qgi n).2) qsv qwa qgi qlo qtu) → decode cX0_takeWhatIsGiven pc = .ok (.return_, 1) → W p l e rmX0_takeWhatIsGiven s m args below meth c H locs 0 0 (MQ below (va_Qv (fun (_ : Unit) => True) (kBeh dC dI A (xW cI cZ h a qph qgr ((X0_takeWhatIsGiven qph qne qtk qgi n).1) qap qle qfu qpc qgd qri qnw ((X0_takeWhatIsGiven qph qne qtk qgi n).2) qsv qwa qgi qlo qtu)) A) args s 0 0 A) (F0 m pc ls []) := fun H locs pc ls hS hP hD d => k_vret hx hb hr hlocks hS hP hD d
  generalize MQ below _ _ _ _ _ _ = Q at hret ⊢
  have hin : ∀ w ∈ wsX00, w ∈ wsX0_takeWhatIsGiven := by decide +kernel
  have hw0 := hts (.fieldLink RX0 55 "ChargePark" "pointCount" "I") (by decide +kernel)
  have hw1 := hts (.fieldLink RX0 28 "ChargePark" "given" "[I") (by decide +kernel)
  have hw2 := hts (.fieldLink RX0 16 "ChargePark" "needOf" "[I") (by decide +kernel)
  have hw3 := hts (.methodLink RX0 132 Lib.Math.min.name) (by decide +kernel)
  have hw4 := hts (.static Lib.Math.min.name) (by decide +kernel)
  have hw5 := hts (.initialized "java/lang/Math") (by decide +kernel)
  have hw6 := hts (.code Lib.Math.min.name Lib.Math.min.code 2 (some .int)) (by decide +kernel)
  have hw7 := hts (.fieldLink RX0 96 "ChargePark" "takenUnits" "I") (by decide +kernel)
  have hl : lv_has ls 3 [(0, .ref h)] := hl
  have hP : va_P (dC, dI) vwCl (xW cI cZ h a qph qgr qne qap qle qfu qpc qgd qri qnw qtk qsv qwa qgi qlo qtu) s.heap := hP
  have hW : ∀ (H : Heap) (locs : List Loc), va_P (dC, dI) vwCl (xW cI cZ h a qph qgr qne qap qle qfu qpc qgd qri qnw qtk qsv qwa qgi qlo qtu) H → va_D A (xW cI cZ h a qph qgr qne qap qle qfu qpc qgd qri qnw qtk qsv qwa qgi qlo qtu) → va_S A s.heap H locs → W p l e rmX0_takeWhatIsGiven s m args below meth c H locs 0 0 Q (F0 m 0 ls []) := by
    intro H locs hP hD hS
    refine lv_iconst (v := 0) hx hb dX0_takeWhatIsGiven_0 (by decide) ?_
    refine lv_istore_n (lv' := [(1, .int 0), (0, .ref h)]) hx hb dX0_takeWhatIsGiven_1 rfl hl (by decide) rfl (fun ls hl => ?_)
    have cont2 : ∀ (z1 : AR), z1 = (X0_takeWhatIsGiven_L2 qph qgi n  n 0 qne qtk).1 → ∀ (z2 : Int32), z2 = (X0_takeWhatIsGiven_L2 qph qgi n  n 0 qne qtk).2 → ∀ (H : Heap) (locs : List Loc) (ls : Array Slot), va_P (dC, dI) vwCl (xW cI cZ h a qph qgr z1 qap qle qfu qpc qgd qri qnw z2 qsv qwa qgi qlo qtu) H → va_D A (xW cI cZ h a qph qgr z1 qap qle qfu qpc qgd qri qnw z2 qsv qwa qgi qlo qtu) → va_S A s.heap H locs → lv_has ls 3 [(0, .ref h)] → W p l e rmX0_takeWhatIsGiven s m args below meth c H locs 0 0 Q (F0 m 67 ls []) := by
      intro z1 hz1 z2 hz2 H locs ls hP hD hS hl
      have hP9 := hP; have hD9 := hD
      subst hz1 hz2
      have hP8 : va_P (dC, dI) vwCl (xW cI cZ h a qph qgr ((X0_takeWhatIsGiven qph qne qtk qgi n).1) qap qle qfu qpc qgd qri qnw ((X0_takeWhatIsGiven qph qne qtk qgi n).2) qsv qwa qgi qlo qtu) H := by rw [X0_takeWhatIsGiven]; exact hP9
      have hD8 : va_D A (xW cI cZ h a qph qgr ((X0_takeWhatIsGiven qph qne qtk qgi n).1) qap qle qfu qpc qgd qri qnw ((X0_takeWhatIsGiven qph qne qtk qgi n).2) qsv qwa qgi qlo qtu) := by rw [X0_takeWhatIsGiven]; exact hD9
      exact hret H locs 67 ls hS hP8 hD8 dX0_takeWhatIsGiven_67
    have loop2 : ∀ (j k : Nat) (vne : AR) (vtk : Int32), k + j = n → X0_takeWhatIsGiven_L2 qph qgi n  j k vne vtk = (X0_takeWhatIsGiven_L2 qph qgi n  n 0 qne qtk) → ∀ (H : Heap) (locs : List Loc) (ls : Array Slot), va_P (dC, dI) vwCl (xW cI cZ h a qph qgr vne qap qle qfu qpc qgd qri qnw vtk qsv qwa qgi qlo qtu) H → va_D A (xW cI cZ h a qph qgr vne qap qle qfu qpc qgd qri qnw vtk qsv qwa qgi qlo qtu) → va_S A s.heap H locs → lv_has ls 3 [(0, .ref h), (1, .int (nI k))] → W p l e rmX0_takeWhatIsGiven s m args below meth c H locs 0 0 Q (F0 m 2 ls []) := by
      intro j
      induction j with
      | zero =>
        intro k vne vtk hk hR  H locs ls hP hD hS hl
        refine lv_iload_n hx hb dX0_takeWhatIsGiven_2 rfl (lv_at hl 1 rfl) ?_
        refine lv_aload_n hx hb dX0_takeWhatIsGiven_3 rfl (lv_at hl 0 rfl) ?_
        refine va_get (D := (dC, dI)) (ci := 0) (v := .int qpc) (C := RX0) (T := TX0) (N := 16) hx hb hts hin hown hK hP 0 rfl rfl 6 (by decide) hw0 (fun _ h9 => h9) rfl dX0_takeWhatIsGiven_4 ?_
        refine lv_icmp_ge (tgt := 67) hx hb dX0_takeWhatIsGiven_7 (by decide) (fun _ => ?_) (fun c => absurd (by rw [hpc]; exact nI_le (by omega) (by omega)) c)
        exact cont2 vne (by rw [← hR, X0_takeWhatIsGiven_L2]) vtk (by rw [← hR, X0_takeWhatIsGiven_L2]) H locs ls hP hD hS (lv_sub hl [0] rfl)
      | succ j ih =>
        intro k vne vtk hk hR  H locs ls hP hD hS hl
        refine lv_iload_n hx hb dX0_takeWhatIsGiven_2 rfl (lv_at hl 1 rfl) ?_
        refine lv_aload_n hx hb dX0_takeWhatIsGiven_3 rfl (lv_at hl 0 rfl) ?_
        refine va_get (D := (dC, dI)) (ci := 0) (v := .int qpc) (C := RX0) (T := TX0) (N := 16) hx hb hts hin hown hK hP 0 rfl rfl 6 (by decide) hw0 (fun _ h9 => h9) rfl dX0_takeWhatIsGiven_4 ?_
        refine lv_icmp_ge (tgt := 67) hx hb dX0_takeWhatIsGiven_7 (by decide) (fun c => absurd c (by rw [hpc]; exact nI_ge (by omega) (by omega))) (fun _ => ?_)
        refine lv_aload_n hx hb dX0_takeWhatIsGiven_10 rfl (lv_at hl 0 rfl) ?_
        refine va_get (D := (dC, dI)) (ci := 0) (v := .ref (a 13)) (C := RX0) (T := TX0) (N := 16) hx hb hts hin hown hK hP 0 rfl rfl 13 (by decide) hw1 (fun _ h9 => h9) rfl dX0_takeWhatIsGiven_11 ?_
        refine lv_iload_n hx hb dX0_takeWhatIsGiven_14 rfl (lv_at hl 1 rfl) ?_
        refine va_iald (f := qgi) hx hb hK hP 8 0 rfl rfl (vp_in_nI (by omega) (by decide)) dX0_takeWhatIsGiven_15 ?_
        refine lv_if_le (tgt := 61) hx hb dX0_takeWhatIsGiven_16 (by decide) (fun c16 => ?_) (fun c16 => ?_)
        · refine lv_iinc (v := (nI (k + 1))) (lv' := [(1, .int (nI (k + 1))), (0, .ref h)]) hx hb dX0_takeWhatIsGiven_61 hl (k := 1) rfl (nI_1 k) (by decide) rfl (fun ls hl => ?_)
          refine lv_goto (tgt := 2) hx hb dX0_takeWhatIsGiven_64 (by decide) ?_
          exact ih (k + 1) vne vtk (by omega) (by rw [← hR, X0_takeWhatIsGiven_L2, if_pos c16])  H locs ls hP hD hS (lv_sub hl [1, 0] rfl)
        · refine lv_aload_n hx hb dX0_takeWhatIsGiven_19 rfl (lv_at hl 0 rfl) ?_
          refine va_get (D := (dC, dI)) (ci := 0) (v := .ref (a 13)) (C := RX0) (T := TX0) (N := 16) hx hb hts hin hown hK hP 0 rfl rfl 13 (by decide) hw1 (fun _ h9 => h9) rfl dX0_takeWhatIsGiven_20 ?_
          refine lv_iload_n hx hb dX0_takeWhatIsGiven_23 rfl (lv_at hl 1 rfl) ?_
          refine va_iald (f := qgi) hx hb hK hP 8 0 rfl rfl (vp_in_nI (by omega) (by decide)) dX0_takeWhatIsGiven_24 ?_
          refine lv_aload_n hx hb dX0_takeWhatIsGiven_25 rfl (lv_at hl 0 rfl) ?_
          refine lv_iload_n hx hb dX0_takeWhatIsGiven_26 rfl (lv_at hl 1 rfl) ?_
          refine k_calli (rest := [.int (qgi (nI k).toNatClampNeg)]) (q0 := 0) hC (c_X0_unitsPerAmpere l dC dI cI cZ h a qph qgr vne qap qle qfu qpc qgd qri qnw vtk qsv qwa qgi qlo qtu  (nI k) (vp_in_nI (by omega) (by decide))) (cwV 1 hts gX0_takeWhatIsGiven_X0_unitsPerAmpere rfl rfl rfl hd_X0_unitsPerAmpere ⟨Nat.le_of_ble_eq_true rfl, Nat.le_of_ble_eq_true rfl⟩) hK hP hD hS hA rfl rfl rfl hl.1 (Nat.le_of_ble_eq_true rfl) dX0_takeWhatIsGiven_27 rfl ⟨Nat.zero_le _, Nat.zero_le _⟩ (fun H locs hP hD hS => ?_)
          refine lv_imul hx hb dX0_takeWhatIsGiven_30 ?_
          refine lv_aload_n hx hb dX0_takeWhatIsGiven_31 rfl (lv_at hl 0 rfl) ?_
          refine va_get (D := (dC, dI)) (ci := 0) (v := .ref (a 2)) (C := RX0) (T := TX0) (N := 16) hx hb hts hin hown hK hP 0 rfl rfl 2 (by decide) hw2 (fun _ h9 => h9) rfl dX0_takeWhatIsGiven_32 ?_
          refine lv_iload_n hx hb dX0_takeWhatIsGiven_35 rfl (lv_at hl 1 rfl) ?_
          refine va_iald (f := vne) hx hb hK hP 3 0 rfl rfl (vp_in_nI (by omega) (by decide)) dX0_takeWhatIsGiven_36 ?_
          refine va_mmin hx hb (hml.trans hl.1.symm) hown hw3 hw4 hw5 hw6 (Nat.le_of_ble_eq_true rfl) (Nat.le_of_ble_eq_true rfl) (Nat.zero_le _) (Nat.zero_le _) dX0_takeWhatIsGiven_37 ?_
          refine lv_istore_n (lv' := [(2, .int (if (vne (nI k).toNatClampNeg) < ((qgi (nI k).toNatClampNeg) * (X0_unitsPerAmpere qph (nI k))) then (vne (nI k).toNatClampNeg) else ((qgi (nI k).toNatClampNeg) * (X0_unitsPerAmpere qph (nI k))))), (0, .ref h), (1, .int (nI k))]) hx hb dX0_takeWhatIsGiven_40 rfl hl (by decide) rfl (fun ls hl => ?_)
          refine lv_aload_n hx hb dX0_takeWhatIsGiven_41 rfl (lv_at hl 1 rfl) ?_
          refine va_get (D := (dC, dI)) (ci := 0) (v := .ref (a 2)) (C := RX0) (T := TX0) (N := 16) hx hb hts hin hown hK hP 0 rfl rfl 2 (by decide) hw2 (fun _ h9 => h9) rfl dX0_takeWhatIsGiven_42 ?_
          refine lv_iload_n hx hb dX0_takeWhatIsGiven_45 rfl (lv_at hl 2 rfl) ?_
          refine lv_dup2_11 hx hb dX0_takeWhatIsGiven_46 rfl rfl ?_
          refine va_iald (f := vne) hx hb hK hP 3 0 rfl rfl (vp_in_nI (by omega) (by decide)) dX0_takeWhatIsGiven_47 ?_
          refine lv_iload_n hx hb dX0_takeWhatIsGiven_48 rfl (lv_at hl 0 rfl) ?_
          refine lv_isub hx hb dX0_takeWhatIsGiven_49 ?_
          refine va_iast (f := vne) hx hb hK hP hD hS 3 0 rfl rfl (vp_in_nI (by omega) (by decide)) dX0_takeWhatIsGiven_50 (fun H locs hP hD hS => ?_)
          obtain ⟨z3, hz3⟩ : ∃ z : AR, z = (upd vne (nI k).toNatClampNeg ((vne (nI k).toNatClampNeg) - (if (vne (nI k).toNatClampNeg) < ((qgi (nI k).toNatClampNeg) * (X0_unitsPerAmpere qph (nI k))) then (vne (nI k).toNatClampNeg) else ((qgi (nI k).toNatClampNeg) * (X0_unitsPerAmpere qph (nI k)))))) := ⟨_, rfl⟩
          rw [← hz3] at hP hD
          have hP : va_P (dC, dI) vwCl (xW cI cZ h a qph qgr z3 qap qle qfu qpc qgd qri qnw vtk qsv qwa qgi qlo qtu) H := hP
          have hD : va_D A (xW cI cZ h a qph qgr z3 qap qle qfu qpc qgd qri qnw vtk qsv qwa qgi qlo qtu) := hD
          refine lv_aload_n hx hb dX0_takeWhatIsGiven_51 rfl (lv_at hl 1 rfl) ?_
          refine lv_dup hx hb dX0_takeWhatIsGiven_52 rfl ?_
          refine va_get (D := (dC, dI)) (ci := 0) (v := .int vtk) (C := RX0) (T := TX0) (N := 16) hx hb hts hin hown hK hP 0 rfl rfl 10 (by decide) hw7 (fun _ h9 => h9) rfl dX0_takeWhatIsGiven_53 ?_
          refine lv_iload_n hx hb dX0_takeWhatIsGiven_56 rfl (lv_at hl 0 rfl) ?_
          refine lv_iadd hx hb dX0_takeWhatIsGiven_57 ?_
          refine va_put (D := (dC, dI)) (ci := 0) (v := .int (vtk + (if (vne (nI k).toNatClampNeg) < ((qgi (nI k).toNatClampNeg) * (X0_unitsPerAmpere qph (nI k))) then (vne (nI k).toNatClampNeg) else ((qgi (nI k).toNatClampNeg) * (X0_unitsPerAmpere qph (nI k)))))) (ty := .int) (C := RX0) (T := TX0) (N := 16) hx hb hts hin tyX0 tyX0_ok nmX0 hown hK hP hD hS 0 rfl rfl 10 (by decide) hw7 (fun _ h9 => h9) rfl xfd10 rfl rfl (Nat.le_of_ble_eq_true rfl) dX0_takeWhatIsGiven_58 (fun H locs hP hD hS => ?_)
          obtain ⟨z4, hz4⟩ : ∃ z : Int32, z = (vtk + (if (vne (nI k).toNatClampNeg) < ((qgi (nI k).toNatClampNeg) * (X0_unitsPerAmpere qph (nI k))) then (vne (nI k).toNatClampNeg) else ((qgi (nI k).toNatClampNeg) * (X0_unitsPerAmpere qph (nI k))))) := ⟨_, rfl⟩
          rw [← hz4] at hP hD
          have hP : va_P (dC, dI) vwCl (xW cI cZ h a qph qgr z3 qap qle qfu qpc qgd qri qnw z4 qsv qwa qgi qlo qtu) H := hP
          have hD : va_D A (xW cI cZ h a qph qgr z3 qap qle qfu qpc qgd qri qnw z4 qsv qwa qgi qlo qtu) := hD
          refine lv_iinc (v := (nI (k + 1))) (lv' := [(1, .int (nI (k + 1))), (2, .int (if (vne (nI k).toNatClampNeg) < ((qgi (nI k).toNatClampNeg) * (X0_unitsPerAmpere qph (nI k))) then (vne (nI k).toNatClampNeg) else ((qgi (nI k).toNatClampNeg) * (X0_unitsPerAmpere qph (nI k))))), (0, .ref h)]) hx hb dX0_takeWhatIsGiven_61 hl (k := 2) rfl (nI_1 k) (by decide) rfl (fun ls hl => ?_)
          refine lv_goto (tgt := 2) hx hb dX0_takeWhatIsGiven_64 (by decide) ?_
          have hP9 := hP; have hD9 := hD; have hl9 := hl; have hR9 := hR; have ih9 := ih
          subst hz3 hz4
          exact ih9 (k + 1) (upd vne (nI k).toNatClampNeg ((vne (nI k).toNatClampNeg) - (if (vne (nI k).toNatClampNeg) < ((qgi (nI k).toNatClampNeg) * (X0_unitsPerAmpere qph (nI k))) then (vne (nI k).toNatClampNeg) else ((qgi (nI k).toNatClampNeg) * (X0_unitsPerAmpere qph (nI k)))))) (vtk + (if (vne (nI k).toNatClampNeg) < ((qgi (nI k).toNatClampNeg) * (X0_unitsPerAmpere qph (nI k))) then (vne (nI k).toNatClampNeg) else ((qgi (nI k).toNatClampNeg) * (X0_unitsPerAmpere qph (nI k))))) (by omega) (by rw [← hR9, X0_takeWhatIsGiven_L2, if_neg c16])  H locs ls hP9 hD9 hS (lv_sub hl9 [2, 0] rfl)
    exact loop2 n 0 qne qtk (by omega) rfl  H locs ls hP hD hS (lv_sub hl [1, 0] rfl)
  exact hW _ _ hP hD hS
def X0_putIntoTurns_L9 (qph : AR) (qgr : AR) (qne : AR) (qap : AR) (qle : AR) (qnw : Int32) (i : Int32) (w : Nat) : Nat → AR → Nat × AR
  | 0, vtu => (0, vtu)
  | j + 1, vtu => (if (X0_laxityAt qph qgr qne qap qle qnw (vtu ((nI (j + 1)) - 1).toNatClampNeg)) ≤ (X0_laxityAt qph qgr qne qap qle qnw i) then ((j + 1), vtu) else X0_putIntoTurns_L9 qph qgr qne qap qle qnw i w  j (upd vtu (nI (j + 1)).toNatClampNeg (vtu ((nI (j + 1)) - 1).toNatClampNeg)))
def X0_putIntoTurns (qph : AR) (qgr : AR) (qne : AR) (qap : AR) (qle : AR) (qnw : Int32) (qtu : AR) (i : Int32) (w : Nat) : AR := (upd ((X0_putIntoTurns_L9 qph qgr qne qap qle qnw i w  w qtu).2) (nI ((X0_putIntoTurns_L9 qph qgr qne qap qle qnw i w  w qtu).1)).toNatClampNeg i)
abbrev rmX0_putIntoTurns : Room := { frames := 3, cells := 0, slots := 0, locals := 56 }
theorem hd_X0_putIntoTurns : yX0_putIntoTurns.cls = RX0 ∧ yX0_putIntoTurns.cls ≠ "java/lang/invoke/MethodHandle" ∧ yX0_putIntoTurns.cls ≠ "java/lang/invoke/VarHandle" ∧ (parseMethodDescriptor yX0_putIntoTurns.desc).map (fun d => d.parameters.length) = some 2 := by decide +kernel
theorem X0_putIntoTurns_le (qph : AR) (qgr : AR) (qne : AR) (qap : AR) (qle : AR) (qnw : Int32) (i : Int32) (w : Nat) : ∀ (j : Nat) (tu : AR), (X0_putIntoTurns_L9 qph qgr qne qap qle qnw i w j tu).1 ≤ j := by
  intro j
  induction j with
  | zero => intro tu; rw [X0_putIntoTurns_L9]; exact Nat.le_refl 0
  | succ j ih =>
    intro tu
    rw [X0_putIntoTurns_L9]
    split
    · exact Nat.le_refl _
    · exact Nat.le_trans (ih _) (Nat.le_succ j)
theorem X0_putIntoTurns_inL (qph : AR) (qgr : AR) (qne : AR) (qap : AR) (qle : AR) (qnw : Int32) (i : Int32) (w : Nat) (hw : w < 8) : ∀ (j : Nat) (tu : AR), j ≤ w → (∀ k, k < w + 1 → k ≠ j → vp_in (tu k) 8) → ∀ k, k < w + 1 → k ≠ (X0_putIntoTurns_L9 qph qgr qne qap qle qnw i w j tu).1 → vp_in ((X0_putIntoTurns_L9 qph qgr qne qap qle qnw i w j tu).2 k) 8 := by
  intro j
  induction j with
  | zero =>
    intro tu hj ht
    rw [X0_putIntoTurns_L9]
    exact ht
  | succ j ih =>
    intro tu hj ht
    rw [X0_putIntoTurns_L9]
    split
    · exact ht
    · refine ih _ (by omega) ?_
      intro k hk hne
      have e1 : (nI (j + 1)).toNatClampNeg = j + 1 := nI_clamp (by omega)
      have e2 : (nI (j + 1) - 1).toNatClampNeg = j := by rw [nI_pred]; exact nI_clamp (by omega)
      rw [e1, e2]
      unfold upd
      split
      · exact ht j (by omega) (by omega)
      · exact ht k hk (by assumption)
theorem X0_putIntoTurns_in (qph : AR) (qgr : AR) (qne : AR) (qap : AR) (qle : AR) (qnw : Int32) (qtu : AR) (i : Int32) (w : Nat) (hp : vp_in i 8) (hw : w < 8) (ht : ∀ k, k < w → vp_in (qtu k) 8) : ∀ k, k < w + 1 → vp_in (X0_putIntoTurns qph qgr qne qap qle qnw qtu i w k) 8 := by
  intro k hk
  have h1 := X0_putIntoTurns_inL qph qgr qne qap qle qnw i w hw w qtu (Nat.le_refl w) (fun q h1 h2 => ht q (by omega)) k hk
  have h2 := X0_putIntoTurns_le qph qgr qne qap qle qnw i w w qtu
  rw [X0_putIntoTurns]
  have e : (nI (X0_putIntoTurns_L9 qph qgr qne qap qle qnw i w w qtu).1).toNatClampNeg = (X0_putIntoTurns_L9 qph qgr qne qap qle qnw i w w qtu).1 := nI_clamp (by omega)
  rw [e]
  unfold upd
  split
  · exact hp
  · exact h1 (by assumption)
set_option maxHeartbeats 4000000 in
set_option maxRecDepth 100000 in
theorem c_X0_putIntoTurns (l : Launch) (dC : Nat → ClassId) (dI : Nat → Nat → Nat) (cI cZ : ClassId) (h : Nat) (a : Nat → Nat) (qph : AR) (qgr : AR) (qne : AR) (qap : AR) (qle : AR) (qfu : AR) (qpc : Int32) (qgd : Int32) (qri : Int32) (qnw : Int32) (qtk : Int32) (qsv : Int32) (qwa : AR) (qgi : AR) (qlo : AR) (qtu : AR) (i : Int32) (w : Nat) (hp : vp_in i 8) (hw : w < 8) (ht : ∀ k, k < w → vp_in (qtu k) 8) : Kv l yX0_putIntoTurns wsX0_putIntoTurns rmX0_putIntoTurns dC dI cI cZ [.ref h, .int i, .int (nI w)] (xW cI cZ h a qph qgr qne qap qle qfu qpc qgd qri qnw qtk qsv qwa qgi qlo qtu) (xW cI cZ h a qph qgr qne qap qle qfu qpc qgd qri qnw qtk qsv qwa qgi qlo ((X0_putIntoTurns qph qgr qne qap qle qnw qtu i w))) := by
  refine k_enter_v (cc := cX0_putIntoTurns) (maxL := 5) (ret := none) (by decide) rfl (Nat.le_of_ble_eq_true rfl) ?_
  intro p e s m below meth c A ls hC hr hlocks hK hP hD hS hA hl
  generalize List.toArray _ = args at hC ⊢
  obtain ⟨hx, hb, hml, hown, hts⟩ := id hC
  have hret : ∀ (H : Heap) (locs : List Loc) (pc : Nat) (ls : Array Slot), va_S A s.heap H locs → va_P (dC, dI) vwCl (xW cI cZ h a qph qgr qne qap qle qfu qpc qgd qri qnw qtk qsv qwa qgi qlo ((X0_putIntoTurns qph qgr qne qap qle qnw qtu i w))) H → va_D A (xW cI cZ h a qph qgr qne qap qle qfu qpc qgd qri qnw qtk qsv qwa qgi qlo ((X0_putIntoTurns qph qgr qne qap qle qnw qtu i w))) → decode cX0_putIntoTurns pc = .ok (.return_, 1) → W p l e rmX0_putIntoTurns s m args below meth c H locs 0 0 (MQ below (va_Qv (fun (_ : Unit) => True) (kBeh dC dI A (xW cI cZ h a qph qgr qne qap qle qfu qpc qgd qri qnw qtk qsv qwa qgi qlo ((X0_putIntoTurns qph qgr qne qap qle qnw qtu i w)))) A) args s 0 0 A) (F0 m pc ls []) := fun H locs pc ls hS hP hD d => k_vret hx hb hr hlocks hS hP hD d
  generalize MQ below _ _ _ _ _ _ = Q at hret ⊢
  have hin : ∀ w ∈ wsX00, w ∈ wsX0_putIntoTurns := by decide +kernel
  have hw0 := hts (.fieldLink RX0 31 "ChargePark" "turns" "[I") (by decide +kernel)
  have hl : lv_has ls 5 [(0, .ref h), (1, .int i), (2, .int (nI w))] := hl
  have hP : va_P (dC, dI) vwCl (xW cI cZ h a qph qgr qne qap qle qfu qpc qgd qri qnw qtk qsv qwa qgi qlo qtu) s.heap := hP
  have hW : ∀ (H : Heap) (locs : List Loc), va_P (dC, dI) vwCl (xW cI cZ h a qph qgr qne qap qle qfu qpc qgd qri qnw qtk qsv qwa qgi qlo qtu) H → va_D A (xW cI cZ h a qph qgr qne qap qle qfu qpc qgd qri qnw qtk qsv qwa qgi qlo qtu) → va_S A s.heap H locs → W p l e rmX0_putIntoTurns s m args below meth c H locs 0 0 Q (F0 m 0 ls []) := by
    intro H locs hP hD hS
    refine lv_aload_n hx hb dX0_putIntoTurns_0 rfl (lv_at hl 0 rfl) ?_
    refine lv_iload_n hx hb dX0_putIntoTurns_1 rfl (lv_at hl 1 rfl) ?_
    refine k_calli (rest := []) (q0 := 0) hC (c_X0_laxityAt l dC dI cI cZ h a qph qgr qne qap qle qfu qpc qgd qri qnw qtk qsv qwa qgi qlo qtu  i hp) (cwV 1 hts gX0_putIntoTurns_X0_laxityAt rfl rfl rfl hd_X0_laxityAt ⟨Nat.le_of_ble_eq_true rfl, Nat.le_of_ble_eq_true rfl⟩) hK hP hD hS hA rfl rfl rfl hl.1 (Nat.le_of_ble_eq_true rfl) dX0_putIntoTurns_2 rfl ⟨Nat.zero_le _, Nat.zero_le _⟩ (fun H locs hP hD hS => ?_)
    refine lv_istore_n (lv' := [(3, .int (X0_laxityAt qph qgr qne qap qle qnw i)), (0, .ref h), (1, .int i), (2, .int (nI w))]) hx hb dX0_putIntoTurns_5 rfl hl (by decide) rfl (fun ls hl => ?_)
    refine lv_iload_n hx hb dX0_putIntoTurns_6 rfl (lv_at hl 3 rfl) ?_
    refine lv_istore (lv' := [(4, .int (nI w)), (3, .int (X0_laxityAt qph qgr qne qap qle qnw i)), (0, .ref h), (1, .int i), (2, .int (nI w))]) hx hb dX0_putIntoTurns_7 hl (by decide) rfl (fun ls hl => ?_)
    have cont9 : ∀ (z1 : Nat), z1 = (X0_putIntoTurns_L9 qph qgr qne qap qle qnw i w  w qtu).1 → ∀ (z2 : AR), z2 = (X0_putIntoTurns_L9 qph qgr qne qap qle qnw i w  w qtu).2 → ∀ (H : Heap) (locs : List Loc) (ls : Array Slot), va_P (dC, dI) vwCl (xW cI cZ h a qph qgr qne qap qle qfu qpc qgd qri qnw qtk qsv qwa qgi qlo z2) H → va_D A (xW cI cZ h a qph qgr qne qap qle qfu qpc qgd qri qnw qtk qsv qwa qgi qlo z2) → va_S A s.heap H locs → lv_has ls 5 [(3, .int (X0_laxityAt qph qgr qne qap qle qnw i)), (0, .ref h), (1, .int i), (2, .int (nI w)), (4, .int (nI z1))] → W p l e rmX0_putIntoTurns s m args below meth c H locs 0 0 Q (F0 m 53 ls []) := by
      intro z1 hz1 z2 hz2 H locs ls hP hD hS hl
      refine lv_aload_n hx hb dX0_putIntoTurns_53 rfl (lv_at hl 1 rfl) ?_
      refine va_get (D := (dC, dI)) (ci := 0) (v := .ref (a 15)) (C := RX0) (T := TX0) (N := 16) hx hb hts hin hown hK hP 0 rfl rfl 15 (by decide) hw0 (fun _ h9 => h9) rfl dX0_putIntoTurns_54 ?_
      refine lv_iload hx hb dX0_putIntoTurns_57 (lv_at hl 4 rfl) ?_
      refine lv_iload_n hx hb dX0_putIntoTurns_59 rfl (lv_at hl 2 rfl) ?_
      refine va_iast (f := z2) hx hb hK hP hD hS 10 0 rfl rfl (vp_in_nI (Nat.lt_of_le_of_lt (by rw [hz1]; exact X0_putIntoTurns_le qph qgr qne qap qle qnw i w _ _) hw) (by decide)) dX0_putIntoTurns_60 (fun H locs hP hD hS => ?_)
      obtain ⟨z3, hz3⟩ : ∃ z : AR, z = (upd z2 (nI z1).toNatClampNeg i) := ⟨_, rfl⟩
      rw [← hz3] at hP hD
      have hP : va_P (dC, dI) vwCl (xW cI cZ h a qph qgr qne qap qle qfu qpc qgd qri qnw qtk qsv qwa qgi qlo z3) H := hP
      have hD : va_D A (xW cI cZ h a qph qgr qne qap qle qfu qpc qgd qri qnw qtk qsv qwa qgi qlo z3) := hD
      have hP9 := hP; have hD9 := hD
      subst hz1 hz2 hz3
      have hP8 : va_P (dC, dI) vwCl (xW cI cZ h a qph qgr qne qap qle qfu qpc qgd qri qnw qtk qsv qwa qgi qlo ((X0_putIntoTurns qph qgr qne qap qle qnw qtu i w))) H := by rw [X0_putIntoTurns]; exact hP9
      have hD8 : va_D A (xW cI cZ h a qph qgr qne qap qle qfu qpc qgd qri qnw qtk qsv qwa qgi qlo ((X0_putIntoTurns qph qgr qne qap qle qnw qtu i w))) := by rw [X0_putIntoTurns]; exact hD9
      exact hret H locs 61 ls hS hP8 hD8 dX0_putIntoTurns_61
    have loop9 : ∀ (j : Nat) (vtu : AR), j ≤ w → X0_putIntoTurns_L9 qph qgr qne qap qle qnw i w  j vtu = (X0_putIntoTurns_L9 qph qgr qne qap qle qnw i w  w qtu) → (∀ k, k < w → vp_in (vtu k) 8) → ∀ (H : Heap) (locs : List Loc) (ls : Array Slot), va_P (dC, dI) vwCl (xW cI cZ h a qph qgr qne qap qle qfu qpc qgd qri qnw qtk qsv qwa qgi qlo vtu) H → va_D A (xW cI cZ h a qph qgr qne qap qle qfu qpc qgd qri qnw qtk qsv qwa qgi qlo vtu) → va_S A s.heap H locs → lv_has ls 5 [(0, .ref h), (1, .int i), (2, .int (nI w)), (3, .int (X0_laxityAt qph qgr qne qap qle qnw i)), (4, .int (nI j))] → W p l e rmX0_putIntoTurns s m args below meth c H locs 0 0 Q (F0 m 9 ls []) := by
      intro j
      induction j with
      | zero =>
        intro vtu hk hR hv H locs ls hP hD hS hl
        refine lv_iload hx hb dX0_putIntoTurns_9 (lv_at hl 4 rfl) ?_
        refine lv_if_le (tgt := 53) hx hb dX0_putIntoTurns_11 (by decide) (fun _ => ?_) (fun c => absurd nI0_le c)
        exact cont9 0 (by rw [← hR, X0_putIntoTurns_L9]) vtu (by rw [← hR, X0_putIntoTurns_L9]) H locs ls hP hD hS (lv_sub hl [3, 0, 1, 2, 4] rfl)
      | succ j ih =>
        intro vtu hk hR hv H locs ls hP hD hS hl
        refine lv_iload hx hb dX0_putIntoTurns_9 (lv_at hl 4 rfl) ?_
        refine lv_if_le (tgt := 53) hx hb dX0_putIntoTurns_11 (by decide) (fun c => absurd c (nI_nle (Nat.succ_pos _) (by omega))) (fun _ => ?_)
        refine lv_aload_n hx hb dX0_putIntoTurns_14 rfl (lv_at hl 0 rfl) ?_
        refine lv_aload_n hx hb dX0_putIntoTurns_15 rfl (lv_at hl 0 rfl) ?_
        refine va_get (D := (dC, dI)) (ci := 0) (v := .ref (a 15)) (C := RX0) (T := TX0) (N := 16) hx hb hts hin hown hK hP 0 rfl rfl 15 (by decide) hw0 (fun _ h9 => h9) rfl dX0_putIntoTurns_16 ?_
        refine lv_iload hx hb dX0_putIntoTurns_19 (lv_at hl 4 rfl) ?_
        refine lv_iconst (v := 1) hx hb dX0_putIntoTurns_21 (by decide) ?_
        refine lv_isub hx hb dX0_putIntoTurns_22 ?_
        refine va_iald (f := vtu) hx hb hK hP 10 0 rfl rfl (vp_pred (by omega) (by decide)) dX0_putIntoTurns_23 ?_
        refine k_calli (rest := []) (q0 := 0) hC (c_X0_laxityAt l dC dI cI cZ h a qph qgr qne qap qle qfu qpc qgd qri qnw qtk qsv qwa qgi qlo vtu  (vtu ((nI (j + 1)) - 1).toNatClampNeg) (hv _ (by rw [nI_pred, nI_clamp (by omega)]; omega))) (cwV 1 hts gX0_putIntoTurns_X0_laxityAt rfl rfl rfl hd_X0_laxityAt ⟨Nat.le_of_ble_eq_true rfl, Nat.le_of_ble_eq_true rfl⟩) hK hP hD hS hA rfl rfl rfl hl.1 (Nat.le_of_ble_eq_true rfl) dX0_putIntoTurns_24 rfl ⟨Nat.zero_le _, Nat.zero_le _⟩ (fun H locs hP hD hS => ?_)
        refine lv_iload_n hx hb dX0_putIntoTurns_27 rfl (lv_at hl 3 rfl) ?_
        refine lv_icmp_le (tgt := 53) hx hb dX0_putIntoTurns_28 (by decide) (fun c28 => ?_) (fun c28 => ?_)
        · exact cont9 (j + 1) (by rw [← hR, X0_putIntoTurns_L9, if_pos c28]) vtu (by rw [← hR, X0_putIntoTurns_L9, if_pos c28]) H locs ls hP hD hS (lv_sub hl [3, 0, 1, 2, 4] rfl)
        · refine lv_aload_n hx hb dX0_putIntoTurns_31 rfl (lv_at hl 0 rfl) ?_
          refine va_get (D := (dC, dI)) (ci := 0) (v := .ref (a 15)) (C := RX0) (T := TX0) (N := 16) hx hb hts hin hown hK hP 0 rfl rfl 15 (by decide) hw0 (fun _ h9 => h9) rfl dX0_putIntoTurns_32 ?_
          refine lv_iload hx hb dX0_putIntoTurns_35 (lv_at hl 4 rfl) ?_
          refine lv_aload_n hx hb dX0_putIntoTurns_37 rfl (lv_at hl 0 rfl) ?_
          refine va_get (D := (dC, dI)) (ci := 0) (v := .ref (a 15)) (C := RX0) (T := TX0) (N := 16) hx hb hts hin hown hK hP 0 rfl rfl 15 (by decide) hw0 (fun _ h9 => h9) rfl dX0_putIntoTurns_38 ?_
          refine lv_iload hx hb dX0_putIntoTurns_41 (lv_at hl 4 rfl) ?_
          refine lv_iconst (v := 1) hx hb dX0_putIntoTurns_43 (by decide) ?_
          refine lv_isub hx hb dX0_putIntoTurns_44 ?_
          refine va_iald (f := vtu) hx hb hK hP 10 0 rfl rfl (vp_pred (by omega) (by decide)) dX0_putIntoTurns_45 ?_
          refine va_iast (f := vtu) hx hb hK hP hD hS 10 0 rfl rfl (vp_in_nI (by omega) (by decide)) dX0_putIntoTurns_46 (fun H locs hP hD hS => ?_)
          obtain ⟨z4, hz4⟩ : ∃ z : AR, z = (upd vtu (nI (j + 1)).toNatClampNeg (vtu ((nI (j + 1)) - 1).toNatClampNeg)) := ⟨_, rfl⟩
          rw [← hz4] at hP hD
          have hP : va_P (dC, dI) vwCl (xW cI cZ h a qph qgr qne qap qle qfu qpc qgd qri qnw qtk qsv qwa qgi qlo z4) H := hP
          have hD : va_D A (xW cI cZ h a qph qgr qne qap qle qfu qpc qgd qri qnw qtk qsv qwa qgi qlo z4) := hD
          refine lv_iinc (v := (nI j)) (lv' := [(4, .int (nI j)), (0, .ref h), (1, .int i), (2, .int (nI w)), (3, .int (X0_laxityAt qph qgr qne qap qle qnw i))]) hx hb dX0_putIntoTurns_47 hl (k := 4) rfl (nI_m1 j) (by decide) rfl (fun ls hl => ?_)
          refine lv_goto (tgt := 9) hx hb dX0_putIntoTurns_50 (by decide) ?_
          have hP9 := hP; have hD9 := hD; have hl9 := hl; have hR9 := hR; have ih9 := ih
          subst hz4
          exact ih9 (upd vtu (nI (j + 1)).toNatClampNeg (vtu ((nI (j + 1)) - 1).toNatClampNeg)) (by omega) (by rw [← hR9, X0_putIntoTurns_L9, if_neg c28]) (upd_in hv (hv _ (by rw [nI_pred, nI_clamp (by omega)]; omega))) H locs ls hP9 hD9 hS (lv_sub hl9 [1, 2, 3, 4, 0] rfl)
    exact loop9 w qtu (Nat.le_refl w) rfl (ht) H locs ls hP hD hS (lv_sub hl [2, 3, 4, 1, 0] rfl)
  exact hW _ _ hP hD hS
