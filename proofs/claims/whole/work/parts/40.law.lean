section
variable {p : Program} {l : Launch} {e : Env} {R : Room} {s : State} {m : MethodId} {args : Array Value} {below : List Frame} {meth : Method} {c : Code} {H : Heap} {locs : List Loc} {cells slots : Nat} {Q : State → Prop}
variable {cc : ByteArray} {pc : Nat} {ls : Array Slot} {rest : List Value} {dC : Nat → ClassId} {dI : Nat → Nat → Nat} {cI cZ cL : ClassId} {A : Nat → Prop} {H0 : Heap} {w wr w2 : va_W}
theorem kl_cmp {x y : Int32} (h : x = y) {g : Nat → Int64} : lg_cmp (vp_updL g (0 : Int32).toNatClampNeg x.toInt64 (0 : Int32).toNatClampNeg) y.toInt64 = 0 := by
  have e : vp_updL g (0 : Int32).toNatClampNeg x.toInt64 (0 : Int32).toNatClampNeg = x.toInt64 := by unfold vp_updL; rw [if_pos rfl]
  rw [e, h]
  unfold lg_cmp
  rw [if_neg (by exact Int64.lt_irrefl), if_pos rfl]
theorem kl_sld {b L : Nat} {xs : Nat → Int32} (hexec : p.tables.exec = Jvm.exec) (hb : c.code = cc) (hX : va_X b L xs s s.heap) (hbl : b < s.heap.size) (hS : va_S (fun q : Nat => s.heap.size ≤ q) s.heap H locs) {i : Int32} {t k : Nat} (hi : i = nI (5 * t + k)) (hk : 5 * t + k < L) (hL : L ≤ 2560) (hdg : decode cc pc = .ok (.iaload, 1))
    (kk : W p l e R s m args below meth c H locs cells slots Q (F0 m (pc + 1) ls (.int (xs (5 * t + k)) :: rest))) : W p l e R s m args below meth c H locs cells slots Q (F0 m pc ls (.int i :: .ref b :: rest)) := by
  refine va_sld hexec hb hX hbl (A := fun q : Nat => s.heap.size ≤ q) (Nat.not_le.mpr hbl) hS (by rw [hi]; exact vp_in_nI hk (by omega)) hdg ?_
  rw [hi, nI_clamp (by omega)]
  exact kk
theorem kPre3_blind {w : va_W} {sz : Nat} {av : List Value} : FrameBlind (va_Pc av (kPre3 dC dI cI cZ cL w sz)) := fun a U g mk q => by
  obtain ⟨q0, q1, qP, qK, qD⟩ := q
  exact ⟨q0, q1, qP, va_K.moved (u := U) (U := U.calling g mk a) (Vm.Alike.refl U.vm) qK, qD⟩
theorem kPre3X_blind {w : va_W} {sz : Nat} {av : List Value} : FrameBlind (va_Pc av (kPre3X dC dI cI cZ cL w sz)) := fun a U g mk q => by
  obtain ⟨q0, ⟨q1, qP, qK, qD⟩, hN, hZ⟩ := q
  exact ⟨q0, ⟨q1, qP, va_K.moved (u := U) (U := U.calling g mk a) (Vm.Alike.refl U.vm) qK, qD⟩, kN_warm (s := U) (U := U.calling g mk a) (State.WarmedH.refl U) hN, vx_Zq.moved (u := U) (U := U.calling g mk a) (Vm.Alike.refl U.vm) hZ.1, vx_Zq.moved (u := U) (U := U.calling g mk a) (Vm.Alike.refl U.vm) hZ.2⟩
theorem kl_ok {own : String} {index nL maxL n : Nat} {y : MethodName} {bytes : ByteArray} {ret : Option FieldType} {hh : List (Nat × Nat × Nat × Nat)} {Ts wy : List Cond} {rm : Room} {As : List Value} (hC : CallFix p m c cc nL s args Ts own) (hM : Hok l y wy rm dC dI cI cZ cL As w w2) (cw : vx_CSW R s args own index y bytes maxL ret hh wy rm 0 0 n) (hK : va_K (dC, dI) vwCl (kT3 cI cZ cL) s) (hP : va_P (dC, dI) vwCl (w ++ wr) H) (hD : va_D A (w ++ wr)) (hS : va_S A s.heap H locs) (hA : ∀ q, s.heap.size ≤ q → A q) (hn : As.length = n) (hl : ls.size = nL) (hr : (rest.map fun v => v.category).sum ≤ 8) (d : decode cc pc = .ok (.invokestatic index, 3)) {st : List Value} (hst : st = As.reverse ++ rest) (hR : cells ≤ R.cells ∧ slots ≤ R.slots)
    (kk : ∀ (H1 : Heap) (locs1 : List Loc), va_P (dC, dI) vwCl (w2 ++ wr) H1 → va_D A (w2 ++ wr) → va_S A s.heap H1 locs1 → W p l e R s m args below meth c H1 locs1 cells slots Q (F0 m (pc + 3) ls (.int 0 :: rest))) : W p l e R s m args below meth c H locs cells slots Q (F0 m pc ls st) := by
  have hF := k_free (k_leftD hD) hS hA
  refine va_calli (vx_runSW (As := As) (rest := rest) hC (hM H.size) cw ⟨kPre3_blind, fun U hU hW => ⟨rfl, by rw [hU], by rw [hU]; exact k_left hP, va_K.moved hW.alike hK, (k_leftD hD).weaken (fun _ _ _ _ => trivial)⟩⟩ rfl hn hl hst (lv_room hr) d hR) hS (fun q _ h => hF q h) hF (fun r u t H1 locs1 ht hvm hw hB hz hk hS1 => ?_)
  subst hw
  obtain ⟨hP1, hD1⟩ := hB
  rw [ht] at hP1
  have h := k_frame hP hD hk hF hP1 hD1
  exact kk H1 locs1 h.1 h.2 hS1
theorem kl_bad {own : String} {index nL maxL n : Nat} {y : MethodName} {bytes : ByteArray} {ret : Option FieldType} {hh : List (Nat × Nat × Nat × Nat)} {Ts wy : List Cond} {rm : Room} {As : List Value} {v : Int32} (hC : CallFix p m c cc nL s args Ts own) (hM : Hbad l y wy rm dC dI cI cZ cL As w v) (cw : vx_CSW R s args own index y bytes maxL ret hh wy rm 1 6 n) (hK : va_K (dC, dI) vwCl (kT3 cI cZ cL) s) (hN : kN s) (hZ : kZ A s s.heap) (hP : va_P (dC, dI) vwCl (w ++ wr) H) (hD : va_D A (w ++ wr)) (hS : va_S A s.heap H locs) (hA : ∀ q, s.heap.size ≤ q → A q) (hn : As.length = n) (hl : ls.size = nL) (hr : (rest.map fun v => v.category).sum ≤ 8) (d : decode cc pc = .ok (.invokestatic index, 3)) {st : List Value} (hst : st = As.reverse ++ rest) (hR : cells + 1 ≤ R.cells ∧ slots + 6 ≤ R.slots)
    (kk : ∀ (H1 : Heap) (locs1 : List Loc), va_P (dC, dI) vwCl (w ++ wr) H1 → va_D A (w ++ wr) → va_S A s.heap H1 locs1 → W p l e R s m args below meth c H1 locs1 (cells + 1) (slots + 6) Q (F0 m (pc + 3) ls (.int v :: rest))) : W p l e R s m args below meth c H locs cells slots Q (F0 m pc ls st) := by
  have hF := k_free (k_leftD hD) hS hA
  refine va_calli (vx_runSW (As := As) (rest := rest) hC (hM H.size) cw ⟨kPre3X_blind, fun U hU hW => ⟨rfl, ⟨by rw [hU], by rw [hU]; exact k_left hP, va_K.moved hW.alike hK, (k_leftD hD).weaken (fun _ _ _ _ => trivial)⟩, kN_warm hW hN, kZ_call hZ hS hU hW.alike hF⟩⟩ rfl hn hl hst (lv_room hr) d hR) hS (fun q _ h => hF q h) hF (fun r u t H1 locs1 ht hvm hw hB hz hk hS1 => ?_)
  subst hw
  obtain ⟨hP1, hD1⟩ := hB
  rw [ht] at hP1
  have h := k_frame hP hD hk hF hP1 hD1
  exact kk H1 locs1 h.1 h.2 hS1
end
theorem hdL_point : yL_point.cls ≠ "java/lang/invoke/MethodHandle" ∧ yL_point.cls ≠ "java/lang/invoke/VarHandle" ∧ (parseMethodDescriptor yL_point.desc).map (fun d => d.parameters.length) = some 4 := by decide +kernel
theorem hdL_fuse : yL_fuse.cls ≠ "java/lang/invoke/MethodHandle" ∧ yL_fuse.cls ≠ "java/lang/invoke/VarHandle" ∧ (parseMethodDescriptor yL_fuse.desc).map (fun d => d.parameters.length) = some 4 := by decide +kernel
theorem hdL_balance : yL_balance.cls ≠ "java/lang/invoke/MethodHandle" ∧ yL_balance.cls ≠ "java/lang/invoke/VarHandle" ∧ (parseMethodDescriptor yL_balance.desc).map (fun d => d.parameters.length) = some 3 := by decide +kernel
theorem hdL_rule : yL_rule.cls ≠ "java/lang/invoke/MethodHandle" ∧ yL_rule.cls ≠ "java/lang/invoke/VarHandle" ∧ (parseMethodDescriptor yL_rule.desc).map (fun d => d.parameters.length) = some 3 := by decide +kernel
theorem hdL_plugIn : yL_plugIn.cls ≠ "java/lang/invoke/MethodHandle" ∧ yL_plugIn.cls ≠ "java/lang/invoke/VarHandle" ∧ (parseMethodDescriptor yL_plugIn.desc).map (fun d => d.parameters.length) = some 6 := by decide +kernel
theorem hdL_takeOut : yL_takeOut.cls ≠ "java/lang/invoke/MethodHandle" ∧ yL_takeOut.cls ≠ "java/lang/invoke/VarHandle" ∧ (parseMethodDescriptor yL_takeOut.desc).map (fun d => d.parameters.length) = some 3 := by decide +kernel
theorem hdL_appetite : yL_appetite.cls ≠ "java/lang/invoke/MethodHandle" ∧ yL_appetite.cls ≠ "java/lang/invoke/VarHandle" ∧ (parseMethodDescriptor yL_appetite.desc).map (fun d => d.parameters.length) = some 4 := by decide +kernel
theorem hdL_stay : yL_stay.cls ≠ "java/lang/invoke/MethodHandle" ∧ yL_stay.cls ≠ "java/lang/invoke/VarHandle" ∧ (parseMethodDescriptor yL_stay.desc).map (fun d => d.parameters.length) = some 4 := by decide +kernel
theorem hdL_step : yL_step.cls ≠ "java/lang/invoke/MethodHandle" ∧ yL_step.cls ≠ "java/lang/invoke/VarHandle" ∧ (parseMethodDescriptor yL_step.desc).map (fun d => d.parameters.length) = some 3 := by decide +kernel
theorem hdL_need : yL_need.cls ≠ "java/lang/invoke/MethodHandle" ∧ yL_need.cls ≠ "java/lang/invoke/VarHandle" ∧ (parseMethodDescriptor yL_need.desc).map (fun d => d.parameters.length) = some 3 := by decide +kernel
theorem hdL_left : yL_left.cls ≠ "java/lang/invoke/MethodHandle" ∧ yL_left.cls ≠ "java/lang/invoke/VarHandle" ∧ (parseMethodDescriptor yL_left.desc).map (fun d => d.parameters.length) = some 3 := by decide +kernel
theorem hdL_laxity : yL_laxity.cls ≠ "java/lang/invoke/MethodHandle" ∧ yL_laxity.cls ≠ "java/lang/invoke/VarHandle" ∧ (parseMethodDescriptor yL_laxity.desc).map (fun d => d.parameters.length) = some 3 := by decide +kernel
theorem hdL_reach : yL_reach.cls ≠ "java/lang/invoke/MethodHandle" ∧ yL_reach.cls ≠ "java/lang/invoke/VarHandle" ∧ (parseMethodDescriptor yL_reach.desc).map (fun d => d.parameters.length) = some 3 := by decide +kernel
theorem hdL_current : yL_current.cls ≠ "java/lang/invoke/MethodHandle" ∧ yL_current.cls ≠ "java/lang/invoke/VarHandle" ∧ (parseMethodDescriptor yL_current.desc).map (fun d => d.parameters.length) = some 3 := by decide +kernel
theorem hdL_load : yL_load.cls ≠ "java/lang/invoke/MethodHandle" ∧ yL_load.cls ≠ "java/lang/invoke/VarHandle" ∧ (parseMethodDescriptor yL_load.desc).map (fun d => d.parameters.length) = some 3 := by decide +kernel
theorem hdL_fairLevel : yL_fairLevel.cls ≠ "java/lang/invoke/MethodHandle" ∧ yL_fairLevel.cls ≠ "java/lang/invoke/VarHandle" ∧ (parseMethodDescriptor yL_fairLevel.desc).map (fun d => d.parameters.length) = some 3 := by decide +kernel
set_option maxHeartbeats 4000000 in
set_option maxRecDepth 100000 in
theorem case_point {p : Program} {l : Launch} {e : Env} {s : State} {m : MethodId} {args : Array Value} {below : List Frame} {meth : Method} {c : Code} {Q : State → Prop} {dC : Nat → ClassId} {dI : Nat → Nat → Nat} {cI cZ cL : ClassId} {b L : Nat} {xs : Nat → Int32} {h h2 o : Nat} {a a2 : Nat → Nat} {t n : Nat} {qph : AR} {qgr : AR} {qne : AR} {qap : AR} {qle : AR} {qfu : AR} {qpc : Int32} {qgd : Int32} {qri : Int32} {qnw : Int32} {qtk : Int32} {qsv : Int32} {qwa : AR} {qgi : AR} {qlo : AR} {qtu : AR} {rpt : Int32} {rph : AR} {rgr : AR} {rca : AR} {rne : AR} {rap : AR} {rle : AR} {rfu : AR} {rba : Int32} {rru : Int32} {rti : Int32} {rtk : Int32} {rsv : Int32} {rgi : AR} {rpa : AR} {rth : Int32} {og : Nat → Int64} (hC : CallFix p m c cL_law 7 s args wsL_law RL) (hl0 : l.stackTraces = false) (hX : va_X b L xs s s.heap) (hbl : b < s.heap.size) (hL : L ≤ 2560) (hK : va_K (dC, dI) vwCl (kT3 cI cZ cL) s) (hNs : kN s) (hZ : kZ (fun q : Nat => s.heap.size ≤ q) s s.heap) (ht : t < 512) (htL : 5 * t + 4 < L) (hR : Rel t n qph qgr qne qap qle qfu qpc qgd qri qnw qtk qsv rpt rph rgr rca rne rap rle rfu rba rru rti rtk rsv) (next : (∀ (n : Nat) (qph : AR) (qgr : AR) (qne : AR) (qap : AR) (qle : AR) (qfu : AR) (qpc : Int32) (qgd : Int32) (qri : Int32) (qnw : Int32) (qtk : Int32) (qsv : Int32) (qwa : AR) (qgi : AR) (qlo : AR) (qtu : AR) (rpt : Int32) (rph : AR) (rgr : AR) (rca : AR) (rne : AR) (rap : AR) (rle : AR) (rfu : AR) (rba : Int32) (rru : Int32) (rti : Int32) (rtk : Int32) (rsv : Int32) (rgi : AR) (rpa : AR) (rth : Int32) (og : Nat → Int64), Rel (t + 1) n qph qgr qne qap qle qfu qpc qgd qri qnw qtk qsv rpt rph rgr rca rne rap rle rfu rba rru rti rtk rsv → ∀ (H : Heap) (locs : List Loc) (ls : Array Slot), va_P (dC, dI) vwCl ((xW cI cZ h a qph qgr qne qap qle qfu qpc qgd qri qnw qtk qsv qwa qgi qlo qtu ++ oW cL o og) ++ mW cI cZ h2 a2 rpt rph rgr rca rne rap rle rfu rba rru rti rtk rsv rgi rpa rth) H → va_D (fun q : Nat => s.heap.size ≤ q) ((xW cI cZ h a qph qgr qne qap qle qfu qpc qgd qri qnw qtk qsv qwa qgi qlo qtu ++ oW cL o og) ++ mW cI cZ h2 a2 rpt rph rgr rca rne rap rle rfu rba rru rti rtk rsv rgi rpa rth) → va_S (fun q : Nat => s.heap.size ≤ q) s.heap H locs → lv_has ls 7 [(0, .ref b), (1, .ref h), (2, .ref h2), (3, .ref o), (4, .int (nI (5 * (t + 1))))] → W p l e room_1 s m args below meth c H locs (22 + (t + 1)) (170 + 6 * (t + 1)) Q (F0 m 23 ls []))) {H : Heap} {locs : List Loc} {ls : Array Slot} (hP : va_P (dC, dI) vwCl ((xW cI cZ h a qph qgr qne qap qle qfu qpc qgd qri qnw qtk qsv qwa qgi qlo qtu ++ oW cL o og) ++ mW cI cZ h2 a2 rpt rph rgr rca rne rap rle rfu rba rru rti rtk rsv rgi rpa rth) H) (hD : va_D (fun q : Nat => s.heap.size ≤ q) ((xW cI cZ h a qph qgr qne qap qle qfu qpc qgd qri qnw qtk qsv qwa qgi qlo qtu ++ oW cL o og) ++ mW cI cZ h2 a2 rpt rph rgr rca rne rap rle rfu rba rru rti rtk rsv rgi rpa rth)) (hS : va_S (fun q : Nat => s.heap.size ≤ q) s.heap H locs) (hl : lv_has ls 7 [(0, .ref b), (1, .ref h), (2, .ref h2), (3, .ref o), (4, .int (nI (5 * t)))]) : W p l e room_1 s m args below meth c H locs (22 + t) (170 + 6 * t) Q (F0 m 144 ls []) := by
  obtain ⟨hx, hb, hml, hown, hts⟩ := id hC
  have hA : ∀ q : Nat, s.heap.size ≤ q → (fun q : Nat => s.heap.size ≤ q) q := fun _ h => h
  refine lv_aload_n hx hb dL_law_144 rfl (lv_at hl 1 rfl) ?_
  refine lv_aload_n hx hb dL_law_145 rfl (lv_at hl 0 rfl) ?_
  refine lv_iload hx hb dL_law_146 (lv_at hl 4 rfl) ?_
  refine lv_iconst (v := 1) hx hb dL_law_148 (by decide) ?_
  refine lv_iadd hx hb dL_law_149 ?_
  refine kl_sld hx hb hX hbl hS (t := t) (k := 1) (nI_add (5 * t) 1) (by omega) hL dL_law_150 ?_
  refine lv_aload_n hx hb dL_law_151 rfl (lv_at hl 0 rfl) ?_
  refine lv_iload hx hb dL_law_152 (lv_at hl 4 rfl) ?_
  refine lv_iconst (v := 2) hx hb dL_law_154 (by decide) ?_
  refine lv_iadd hx hb dL_law_155 ?_
  refine kl_sld hx hb hX hbl hS (t := t) (k := 2) (nI_add (5 * t) 2) (by omega) hL dL_law_156 ?_
  refine lv_aload_n hx hb dL_law_157 rfl (lv_at hl 3 rfl) ?_
  by_cases hT : (X0_point_T qpc n (xs (5 * t + 1)) (xs (5 * t + 2))) = 0
  · refine kl_ok (rest := []) (As := [.ref h, .int (xs (5 * t + 1)), .int (xs (5 * t + 2)), .ref o]) hC (c_L_point l dC dI cI cZ cL h a qph qgr qne qap qle qfu qpc qgd qri qnw qtk qsv qwa qgi qlo qtu n (xs (5 * t + 1)) (xs (5 * t + 2)) o og (Rel.qpc hR) (Rel.n8 hR) hT) (vx_cwSW 4 hC.2.2.2.2 gL_law_L_point rfl rfl rfl hdL_point ⟨Nat.le_of_ble_eq_true rfl, Nat.le_of_ble_eq_true rfl⟩) hK hP hD hS hA rfl hl.1 (Nat.le_of_ble_eq_true rfl) dL_law_158 rfl ⟨by show 22 + t ≤ 1052; omega, by show 170 + 6 * t ≤ 8398; omega⟩ (fun H locs hP hD hS => ?_)
    obtain ⟨e1, e2, hR1⟩ := R_point_ok qwa qgi qlo qtu rgi rpa rth (xs (5 * t + 1)) (xs (5 * t + 2)) ht hR hT
    refine lv_istore (lv' := [(5, .int 0), (0, .ref b), (1, .ref h), (2, .ref h2), (3, .ref o), (4, .int (nI (5 * t)))]) hx hb dL_law_161 hl (by decide) rfl (fun ls hl => ?_)
    refine lv_aload_n hx hb dL_law_163 rfl (lv_at hl 3 rfl) ?_
    refine lv_aload_n hx hb dL_law_164 rfl (lv_at hl 1 rfl) ?_
    refine lv_iload hx hb dL_law_165 (lv_at hl 5 rfl) ?_
    refine lv_iconst (v := 1) hx hb dL_law_167 (by decide) ?_
    refine lv_iadd hx hb dL_law_168 ?_
    refine kl_sld hx hb hX hbl hS (t := t) (k := 1) (nI_add (5 * t) 1) (by omega) hL dL_law_169 ?_
    refine lv_aload_n hx hb dL_law_170 rfl (lv_at hl 1 rfl) ?_
    refine lv_iload hx hb dL_law_171 (lv_at hl 5 rfl) ?_
    refine lv_iconst (v := 2) hx hb dL_law_173 (by decide) ?_
    refine lv_iadd hx hb dL_law_174 ?_
    refine kl_sld hx hb hX hbl hS (t := t) (k := 2) (nI_add (5 * t) 2) (by omega) hL dL_law_175 ?_
    refine kf_calliR (wr := (xW cI cZ h a ((X0_point qph qgr qne qpc n (xs (5 * t + 1)) (xs (5 * t + 2))).2.1) ((X0_point qph qgr qne qpc n (xs (5 * t + 1)) (xs (5 * t + 2))).2.2.1) ((X0_point qph qgr qne qpc n (xs (5 * t + 1)) (xs (5 * t + 2))).2.2.2.1) qap qle qfu ((X0_point qph qgr qne qpc n (xs (5 * t + 1)) (xs (5 * t + 2))).2.2.2.2) qgd qri qnw qtk qsv qwa qgi qlo qtu ++ oW cL o (vp_updL og (0 : Int32).toNatClampNeg ((X0_point qph qgr qne qpc n (xs (5 * t + 1)) (xs (5 * t + 2))).1).toInt64))) (rest := []) (q0 := 0) hC (c_X1_point l dC dI cI cZ h2 a2 rpt rph rgr rca rne rap rle rfu rba rru rti rtk rsv rgi rpa rth n (xs (5 * t + 1)) (xs (5 * t + 2)) (Rel.rpt hR) (Rel.n8 hR)) (cwV 2 hC.2.2.2.2 gL_law_X1_point rfl rfl rfl hd_X1_point ⟨Nat.le_of_ble_eq_true rfl, Nat.le_of_ble_eq_true rfl⟩) (k_sub3 hK) hP hD hS hA rfl rfl rfl hl.1 (Nat.le_of_ble_eq_true rfl) dL_law_176 rfl ⟨by show (22 + t) ≤ 1052; omega, by show (170 + 6 * t) ≤ 8398; omega⟩ (fun H locs hP hD hS => ?_)
    refine lv_istore (lv' := [(6, .int ((X1_point rpt rph rgr n (xs (5 * t + 1)) (xs (5 * t + 2))).1)), (5, .int 0), (0, .ref b), (1, .ref h), (2, .ref h2), (3, .ref o), (4, .int (nI (5 * t)))]) hx hb dL_law_179 hl (by decide) rfl (fun ls hl => ?_)
    refine lv_aload_n hx hb dL_law_181 rfl (lv_at hl 4 rfl) ?_
    refine kf_calliR (wr := (xW cI cZ h a ((X0_point qph qgr qne qpc n (xs (5 * t + 1)) (xs (5 * t + 2))).2.1) ((X0_point qph qgr qne qpc n (xs (5 * t + 1)) (xs (5 * t + 2))).2.2.1) ((X0_point qph qgr qne qpc n (xs (5 * t + 1)) (xs (5 * t + 2))).2.2.2.1) qap qle qfu ((X0_point qph qgr qne qpc n (xs (5 * t + 1)) (xs (5 * t + 2))).2.2.2.2) qgd qri qnw qtk qsv qwa qgi qlo qtu ++ oW cL o (vp_updL og (0 : Int32).toNatClampNeg ((X0_point qph qgr qne qpc n (xs (5 * t + 1)) (xs (5 * t + 2))).1).toInt64))) (rest := []) (q0 := 0) hC (c_X1_thrown l dC dI cI cZ h2 a2 ((X1_point rpt rph rgr n (xs (5 * t + 1)) (xs (5 * t + 2))).2.1) ((X1_point rpt rph rgr n (xs (5 * t + 1)) (xs (5 * t + 2))).2.2.1) ((X1_point rpt rph rgr n (xs (5 * t + 1)) (xs (5 * t + 2))).2.2.2.1) rca rne rap rle rfu rba rru rti rtk rsv rgi rpa ((X1_point rpt rph rgr n (xs (5 * t + 1)) (xs (5 * t + 2))).2.2.2.2)) (cwV 0 hC.2.2.2.2 gL_law_X1_thrown rfl rfl rfl hd_X1_thrown ⟨Nat.le_of_ble_eq_true rfl, Nat.le_of_ble_eq_true rfl⟩) (k_sub3 hK) hP hD hS hA rfl rfl rfl hl.1 (Nat.le_of_ble_eq_true rfl) dL_law_182 rfl ⟨by show (22 + t) ≤ 1052; omega, by show (170 + 6 * t) ≤ 8398; omega⟩ (fun H locs hP hD hS => ?_)
    refine lv_iload hx hb dL_law_185 (lv_at hl 1 rfl) ?_
    refine lv_icmp_eq (tgt := 192) hx hb dL_law_187 (by decide) (fun _ => ?_) (fun c => absurd e1 c)
    refine lv_iload hx hb dL_law_192 (lv_at hl 1 rfl) ?_
    refine lv_if_ne (tgt := 209) hx hb dL_law_194 (by decide) (fun c => absurd rfl c) (fun _ => ?_)
    refine lv_aload_n hx hb dL_law_197 rfl (lv_at hl 5 rfl) ?_
    refine lv_iconst (v := 0) hx hb dL_law_198 (by decide) ?_
    refine va_lald (f := (vp_updL og (0 : Int32).toNatClampNeg ((X0_point qph qgr qne qpc n (xs (5 * t + 1)) (xs (5 * t + 2))).1).toInt64)) hx hb hK hP 11 2 rfl rfl vpc0_1 dL_law_199 ?_
    refine lv_iload hx hb dL_law_200 (lv_at hl 0 rfl) ?_
    refine lv_i2l hx hb dL_law_202 rfl ?_
    refine W.lcmp hx hb dL_law_203 ?_
    refine lv_if_eq (tgt := 209) hx hb dL_law_204 (by decide) (fun _ => ?_) (fun c => absurd (kl_cmp e2) c)
    refine lv_goto (tgt := 1215) hx hb dL_law_209 (by decide) ?_
    refine lv_iinc (v := (nI (5 * (t + 1)))) (lv' := [(4, .int (nI (5 * (t + 1)))), (6, .int ((X1_point rpt rph rgr n (xs (5 * t + 1)) (xs (5 * t + 2))).1)), (5, .int 0), (0, .ref b), (1, .ref h), (2, .ref h2), (3, .ref o)]) hx hb dL_law_1215 hl (k := 6) rfl (nI_add (5 * t) 5) (by decide) rfl (fun ls hl => ?_)
    refine lv_goto (tgt := 23) hx hb dL_law_1218 (by decide) ?_
    refine W.widen (k := 22 + (t + 1)) (n := 170 + 6 * (t + 1)) (by omega) (by omega) ?_
    exact next _ _ _ _ _ _ _ _ _ _ _ _ _ _ _ _ _ _ _ _ _ _ _ _ _ _ _ _ _ _ _ _ _ _ hR1 H locs ls hP hD hS (lv_sub hl [3, 4, 5, 6, 0] rfl)
  · refine kl_bad (rest := []) (As := [.ref h, .int (xs (5 * t + 1)), .int (xs (5 * t + 2)), .ref o]) hC (cx_L_point l hl0 dC dI cI cZ cL h a qph qgr qne qap qle qfu qpc qgd qri qnw qtk qsv qwa qgi qlo qtu n (xs (5 * t + 1)) (xs (5 * t + 2)) o og (Rel.qpc hR) (Rel.n8 hR) hT) (vx_cwSW 4 hC.2.2.2.2 gL_law_L_point rfl rfl rfl hdL_point ⟨Nat.le_of_ble_eq_true rfl, Nat.le_of_ble_eq_true rfl⟩) hK hNs hZ hP hD hS hA rfl hl.1 (Nat.le_of_ble_eq_true rfl) dL_law_158 rfl ⟨by show 22 + t + 1 ≤ 1052; omega, by show 170 + 6 * t + 6 ≤ 8398; omega⟩ (fun H locs hP hD hS => ?_)
    obtain ⟨e1, hR1⟩ := R_point_bad qwa qgi qlo qtu rgi rpa rth (xs (5 * t + 1)) (xs (5 * t + 2)) ht hR hT
    refine lv_istore (lv' := [(5, .int (X0_point_T qpc n (xs (5 * t + 1)) (xs (5 * t + 2)))), (0, .ref b), (1, .ref h), (2, .ref h2), (3, .ref o), (4, .int (nI (5 * t)))]) hx hb dL_law_161 hl (by decide) rfl (fun ls hl => ?_)
    refine lv_aload_n hx hb dL_law_163 rfl (lv_at hl 3 rfl) ?_
    refine lv_aload_n hx hb dL_law_164 rfl (lv_at hl 1 rfl) ?_
    refine lv_iload hx hb dL_law_165 (lv_at hl 5 rfl) ?_
    refine lv_iconst (v := 1) hx hb dL_law_167 (by decide) ?_
    refine lv_iadd hx hb dL_law_168 ?_
    refine kl_sld hx hb hX hbl hS (t := t) (k := 1) (nI_add (5 * t) 1) (by omega) hL dL_law_169 ?_
    refine lv_aload_n hx hb dL_law_170 rfl (lv_at hl 1 rfl) ?_
    refine lv_iload hx hb dL_law_171 (lv_at hl 5 rfl) ?_
    refine lv_iconst (v := 2) hx hb dL_law_173 (by decide) ?_
    refine lv_iadd hx hb dL_law_174 ?_
    refine kl_sld hx hb hX hbl hS (t := t) (k := 2) (nI_add (5 * t) 2) (by omega) hL dL_law_175 ?_
    refine kf_calliR (wr := (xW cI cZ h a qph qgr qne qap qle qfu qpc qgd qri qnw qtk qsv qwa qgi qlo qtu ++ oW cL o og)) (rest := []) (q0 := 0) hC (c_X1_point l dC dI cI cZ h2 a2 rpt rph rgr rca rne rap rle rfu rba rru rti rtk rsv rgi rpa rth n (xs (5 * t + 1)) (xs (5 * t + 2)) (Rel.rpt hR) (Rel.n8 hR)) (cwV 2 hC.2.2.2.2 gL_law_X1_point rfl rfl rfl hd_X1_point ⟨Nat.le_of_ble_eq_true rfl, Nat.le_of_ble_eq_true rfl⟩) (k_sub3 hK) hP hD hS hA rfl rfl rfl hl.1 (Nat.le_of_ble_eq_true rfl) dL_law_176 rfl ⟨by show (22 + t + 1) ≤ 1052; omega, by show (170 + 6 * t + 6) ≤ 8398; omega⟩ (fun H locs hP hD hS => ?_)
    refine lv_istore (lv' := [(6, .int ((X1_point rpt rph rgr n (xs (5 * t + 1)) (xs (5 * t + 2))).1)), (5, .int (X0_point_T qpc n (xs (5 * t + 1)) (xs (5 * t + 2)))), (0, .ref b), (1, .ref h), (2, .ref h2), (3, .ref o), (4, .int (nI (5 * t)))]) hx hb dL_law_179 hl (by decide) rfl (fun ls hl => ?_)
    refine lv_aload_n hx hb dL_law_181 rfl (lv_at hl 4 rfl) ?_
    refine kf_calliR (wr := (xW cI cZ h a qph qgr qne qap qle qfu qpc qgd qri qnw qtk qsv qwa qgi qlo qtu ++ oW cL o og)) (rest := []) (q0 := 0) hC (c_X1_thrown l dC dI cI cZ h2 a2 ((X1_point rpt rph rgr n (xs (5 * t + 1)) (xs (5 * t + 2))).2.1) ((X1_point rpt rph rgr n (xs (5 * t + 1)) (xs (5 * t + 2))).2.2.1) ((X1_point rpt rph rgr n (xs (5 * t + 1)) (xs (5 * t + 2))).2.2.2.1) rca rne rap rle rfu rba rru rti rtk rsv rgi rpa ((X1_point rpt rph rgr n (xs (5 * t + 1)) (xs (5 * t + 2))).2.2.2.2)) (cwV 0 hC.2.2.2.2 gL_law_X1_thrown rfl rfl rfl hd_X1_thrown ⟨Nat.le_of_ble_eq_true rfl, Nat.le_of_ble_eq_true rfl⟩) (k_sub3 hK) hP hD hS hA rfl rfl rfl hl.1 (Nat.le_of_ble_eq_true rfl) dL_law_182 rfl ⟨by show (22 + t + 1) ≤ 1052; omega, by show (170 + 6 * t + 6) ≤ 8398; omega⟩ (fun H locs hP hD hS => ?_)
    refine lv_iload hx hb dL_law_185 (lv_at hl 1 rfl) ?_
    refine lv_icmp_eq (tgt := 192) hx hb dL_law_187 (by decide) (fun _ => ?_) (fun c => absurd e1 c)
    refine lv_iload hx hb dL_law_192 (lv_at hl 1 rfl) ?_
    refine lv_if_ne (tgt := 209) hx hb dL_law_194 (by decide) (fun _ => ?_) (fun c => absurd c hT)
    refine lv_goto (tgt := 1215) hx hb dL_law_209 (by decide) ?_
    refine lv_iinc (v := (nI (5 * (t + 1)))) (lv' := [(4, .int (nI (5 * (t + 1)))), (6, .int ((X1_point rpt rph rgr n (xs (5 * t + 1)) (xs (5 * t + 2))).1)), (5, .int (X0_point_T qpc n (xs (5 * t + 1)) (xs (5 * t + 2)))), (0, .ref b), (1, .ref h), (2, .ref h2), (3, .ref o)]) hx hb dL_law_1215 hl (k := 6) rfl (nI_add (5 * t) 5) (by decide) rfl (fun ls hl => ?_)
    refine lv_goto (tgt := 23) hx hb dL_law_1218 (by decide) ?_
    refine W.widen (k := 22 + (t + 1)) (n := 170 + 6 * (t + 1)) (by omega) (by omega) ?_
    exact next _ _ _ _ _ _ _ _ _ _ _ _ _ _ _ _ _ _ _ _ _ _ _ _ _ _ _ _ _ _ _ _ _ _ hR1 H locs ls hP hD hS (lv_sub hl [3, 4, 5, 6, 0] rfl)
set_option maxHeartbeats 4000000 in
set_option maxRecDepth 100000 in
theorem case_fuse {p : Program} {l : Launch} {e : Env} {s : State} {m : MethodId} {args : Array Value} {below : List Frame} {meth : Method} {c : Code} {Q : State → Prop} {dC : Nat → ClassId} {dI : Nat → Nat → Nat} {cI cZ cL : ClassId} {b L : Nat} {xs : Nat → Int32} {h h2 o : Nat} {a a2 : Nat → Nat} {t n : Nat} {qph : AR} {qgr : AR} {qne : AR} {qap : AR} {qle : AR} {qfu : AR} {qpc : Int32} {qgd : Int32} {qri : Int32} {qnw : Int32} {qtk : Int32} {qsv : Int32} {qwa : AR} {qgi : AR} {qlo : AR} {qtu : AR} {rpt : Int32} {rph : AR} {rgr : AR} {rca : AR} {rne : AR} {rap : AR} {rle : AR} {rfu : AR} {rba : Int32} {rru : Int32} {rti : Int32} {rtk : Int32} {rsv : Int32} {rgi : AR} {rpa : AR} {rth : Int32} {og : Nat → Int64} (hC : CallFix p m c cL_law 7 s args wsL_law RL) (hl0 : l.stackTraces = false) (hX : va_X b L xs s s.heap) (hbl : b < s.heap.size) (hL : L ≤ 2560) (hK : va_K (dC, dI) vwCl (kT3 cI cZ cL) s) (hNs : kN s) (hZ : kZ (fun q : Nat => s.heap.size ≤ q) s s.heap) (ht : t < 512) (htL : 5 * t + 4 < L) (hR : Rel t n qph qgr qne qap qle qfu qpc qgd qri qnw qtk qsv rpt rph rgr rca rne rap rle rfu rba rru rti rtk rsv) (next : (∀ (n : Nat) (qph : AR) (qgr : AR) (qne : AR) (qap : AR) (qle : AR) (qfu : AR) (qpc : Int32) (qgd : Int32) (qri : Int32) (qnw : Int32) (qtk : Int32) (qsv : Int32) (qwa : AR) (qgi : AR) (qlo : AR) (qtu : AR) (rpt : Int32) (rph : AR) (rgr : AR) (rca : AR) (rne : AR) (rap : AR) (rle : AR) (rfu : AR) (rba : Int32) (rru : Int32) (rti : Int32) (rtk : Int32) (rsv : Int32) (rgi : AR) (rpa : AR) (rth : Int32) (og : Nat → Int64), Rel (t + 1) n qph qgr qne qap qle qfu qpc qgd qri qnw qtk qsv rpt rph rgr rca rne rap rle rfu rba rru rti rtk rsv → ∀ (H : Heap) (locs : List Loc) (ls : Array Slot), va_P (dC, dI) vwCl ((xW cI cZ h a qph qgr qne qap qle qfu qpc qgd qri qnw qtk qsv qwa qgi qlo qtu ++ oW cL o og) ++ mW cI cZ h2 a2 rpt rph rgr rca rne rap rle rfu rba rru rti rtk rsv rgi rpa rth) H → va_D (fun q : Nat => s.heap.size ≤ q) ((xW cI cZ h a qph qgr qne qap qle qfu qpc qgd qri qnw qtk qsv qwa qgi qlo qtu ++ oW cL o og) ++ mW cI cZ h2 a2 rpt rph rgr rca rne rap rle rfu rba rru rti rtk rsv rgi rpa rth) → va_S (fun q : Nat => s.heap.size ≤ q) s.heap H locs → lv_has ls 7 [(0, .ref b), (1, .ref h), (2, .ref h2), (3, .ref o), (4, .int (nI (5 * (t + 1))))] → W p l e room_1 s m args below meth c H locs (22 + (t + 1)) (170 + 6 * (t + 1)) Q (F0 m 23 ls []))) {H : Heap} {locs : List Loc} {ls : Array Slot} (hP : va_P (dC, dI) vwCl ((xW cI cZ h a qph qgr qne qap qle qfu qpc qgd qri qnw qtk qsv qwa qgi qlo qtu ++ oW cL o og) ++ mW cI cZ h2 a2 rpt rph rgr rca rne rap rle rfu rba rru rti rtk rsv rgi rpa rth) H) (hD : va_D (fun q : Nat => s.heap.size ≤ q) ((xW cI cZ h a qph qgr qne qap qle qfu qpc qgd qri qnw qtk qsv qwa qgi qlo qtu ++ oW cL o og) ++ mW cI cZ h2 a2 rpt rph rgr rca rne rap rle rfu rba rru rti rtk rsv rgi rpa rth)) (hS : va_S (fun q : Nat => s.heap.size ≤ q) s.heap H locs) (hl : lv_has ls 7 [(0, .ref b), (1, .ref h), (2, .ref h2), (3, .ref o), (4, .int (nI (5 * t)))]) : W p l e room_1 s m args below meth c H locs (22 + t) (170 + 6 * t) Q (F0 m 212 ls []) := by
  obtain ⟨hx, hb, hml, hown, hts⟩ := id hC
  have hA : ∀ q : Nat, s.heap.size ≤ q → (fun q : Nat => s.heap.size ≤ q) q := fun _ h => h
  refine lv_aload_n hx hb dL_law_212 rfl (lv_at hl 1 rfl) ?_
  refine lv_aload_n hx hb dL_law_213 rfl (lv_at hl 0 rfl) ?_
  refine lv_iload hx hb dL_law_214 (lv_at hl 4 rfl) ?_
  refine lv_iconst (v := 1) hx hb dL_law_216 (by decide) ?_
  refine lv_iadd hx hb dL_law_217 ?_
  refine kl_sld hx hb hX hbl hS (t := t) (k := 1) (nI_add (5 * t) 1) (by omega) hL dL_law_218 ?_
  refine lv_aload_n hx hb dL_law_219 rfl (lv_at hl 0 rfl) ?_
  refine lv_iload hx hb dL_law_220 (lv_at hl 4 rfl) ?_
  refine lv_iconst (v := 2) hx hb dL_law_222 (by decide) ?_
  refine lv_iadd hx hb dL_law_223 ?_
  refine kl_sld hx hb hX hbl hS (t := t) (k := 2) (nI_add (5 * t) 2) (by omega) hL dL_law_224 ?_
  refine lv_aload_n hx hb dL_law_225 rfl (lv_at hl 3 rfl) ?_
  by_cases hT : (X0_fuse_T (xs (5 * t + 1)) (xs (5 * t + 2))) = 0
  · refine kl_ok (rest := []) (As := [.ref h, .int (xs (5 * t + 1)), .int (xs (5 * t + 2)), .ref o]) hC (c_L_fuse l dC dI cI cZ cL h a qph qgr qne qap qle qfu qpc qgd qri qnw qtk qsv qwa qgi qlo qtu (xs (5 * t + 1)) (xs (5 * t + 2)) o og  hT) (vx_cwSW 4 hC.2.2.2.2 gL_law_L_fuse rfl rfl rfl hdL_fuse ⟨Nat.le_of_ble_eq_true rfl, Nat.le_of_ble_eq_true rfl⟩) hK hP hD hS hA rfl hl.1 (Nat.le_of_ble_eq_true rfl) dL_law_226 rfl ⟨by show 22 + t ≤ 1052; omega, by show 170 + 6 * t ≤ 8398; omega⟩ (fun H locs hP hD hS => ?_)
    obtain ⟨e1, e2, hR1⟩ := R_fuse_ok qwa qgi qlo qtu rgi rpa rth (xs (5 * t + 1)) (xs (5 * t + 2)) ht hR hT
    refine lv_istore (lv' := [(5, .int 0), (0, .ref b), (1, .ref h), (2, .ref h2), (3, .ref o), (4, .int (nI (5 * t)))]) hx hb dL_law_229 hl (by decide) rfl (fun ls hl => ?_)
    refine lv_aload_n hx hb dL_law_231 rfl (lv_at hl 3 rfl) ?_
    refine lv_aload_n hx hb dL_law_232 rfl (lv_at hl 1 rfl) ?_
    refine lv_iload hx hb dL_law_233 (lv_at hl 5 rfl) ?_
    refine lv_iconst (v := 1) hx hb dL_law_235 (by decide) ?_
    refine lv_iadd hx hb dL_law_236 ?_
    refine kl_sld hx hb hX hbl hS (t := t) (k := 1) (nI_add (5 * t) 1) (by omega) hL dL_law_237 ?_
    refine lv_aload_n hx hb dL_law_238 rfl (lv_at hl 1 rfl) ?_
    refine lv_iload hx hb dL_law_239 (lv_at hl 5 rfl) ?_
    refine lv_iconst (v := 2) hx hb dL_law_241 (by decide) ?_
    refine lv_iadd hx hb dL_law_242 ?_
    refine kl_sld hx hb hX hbl hS (t := t) (k := 2) (nI_add (5 * t) 2) (by omega) hL dL_law_243 ?_
    refine kf_calliR (wr := (xW cI cZ h a qph qgr qne qap qle ((X0_fuse qfu (xs (5 * t + 1)) (xs (5 * t + 2))).2) qpc qgd qri qnw qtk qsv qwa qgi qlo qtu ++ oW cL o (vp_updL og (0 : Int32).toNatClampNeg ((X0_fuse qfu (xs (5 * t + 1)) (xs (5 * t + 2))).1).toInt64))) (rest := []) (q0 := 0) hC (c_X1_fuse l dC dI cI cZ h2 a2 rpt rph rgr rca rne rap rle rfu rba rru rti rtk rsv rgi rpa rth (xs (5 * t + 1)) (xs (5 * t + 2))) (cwV 2 hC.2.2.2.2 gL_law_X1_fuse rfl rfl rfl hd_X1_fuse ⟨Nat.le_of_ble_eq_true rfl, Nat.le_of_ble_eq_true rfl⟩) (k_sub3 hK) hP hD hS hA rfl rfl rfl hl.1 (Nat.le_of_ble_eq_true rfl) dL_law_244 rfl ⟨by show (22 + t) ≤ 1052; omega, by show (170 + 6 * t) ≤ 8398; omega⟩ (fun H locs hP hD hS => ?_)
    refine lv_istore (lv' := [(6, .int ((X1_fuse rfu (xs (5 * t + 1)) (xs (5 * t + 2))).1)), (5, .int 0), (0, .ref b), (1, .ref h), (2, .ref h2), (3, .ref o), (4, .int (nI (5 * t)))]) hx hb dL_law_247 hl (by decide) rfl (fun ls hl => ?_)
    refine lv_aload_n hx hb dL_law_249 rfl (lv_at hl 4 rfl) ?_
    refine kf_calliR (wr := (xW cI cZ h a qph qgr qne qap qle ((X0_fuse qfu (xs (5 * t + 1)) (xs (5 * t + 2))).2) qpc qgd qri qnw qtk qsv qwa qgi qlo qtu ++ oW cL o (vp_updL og (0 : Int32).toNatClampNeg ((X0_fuse qfu (xs (5 * t + 1)) (xs (5 * t + 2))).1).toInt64))) (rest := []) (q0 := 0) hC (c_X1_thrown l dC dI cI cZ h2 a2 rpt rph rgr rca rne rap rle ((X1_fuse rfu (xs (5 * t + 1)) (xs (5 * t + 2))).2.1) rba rru rti rtk rsv rgi rpa ((X1_fuse rfu (xs (5 * t + 1)) (xs (5 * t + 2))).2.2)) (cwV 0 hC.2.2.2.2 gL_law_X1_thrown rfl rfl rfl hd_X1_thrown ⟨Nat.le_of_ble_eq_true rfl, Nat.le_of_ble_eq_true rfl⟩) (k_sub3 hK) hP hD hS hA rfl rfl rfl hl.1 (Nat.le_of_ble_eq_true rfl) dL_law_250 rfl ⟨by show (22 + t) ≤ 1052; omega, by show (170 + 6 * t) ≤ 8398; omega⟩ (fun H locs hP hD hS => ?_)
    refine lv_iload hx hb dL_law_253 (lv_at hl 1 rfl) ?_
    refine lv_icmp_eq (tgt := 260) hx hb dL_law_255 (by decide) (fun _ => ?_) (fun c => absurd e1 c)
    refine lv_iload hx hb dL_law_260 (lv_at hl 1 rfl) ?_
    refine lv_if_ne (tgt := 277) hx hb dL_law_262 (by decide) (fun c => absurd rfl c) (fun _ => ?_)
    refine lv_aload_n hx hb dL_law_265 rfl (lv_at hl 5 rfl) ?_
    refine lv_iconst (v := 0) hx hb dL_law_266 (by decide) ?_
    refine va_lald (f := (vp_updL og (0 : Int32).toNatClampNeg ((X0_fuse qfu (xs (5 * t + 1)) (xs (5 * t + 2))).1).toInt64)) hx hb hK hP 11 2 rfl rfl vpc0_1 dL_law_267 ?_
    refine lv_iload hx hb dL_law_268 (lv_at hl 0 rfl) ?_
    refine lv_i2l hx hb dL_law_270 rfl ?_
    refine W.lcmp hx hb dL_law_271 ?_
    refine lv_if_eq (tgt := 277) hx hb dL_law_272 (by decide) (fun _ => ?_) (fun c => absurd (kl_cmp e2) c)
    refine lv_goto (tgt := 1215) hx hb dL_law_277 (by decide) ?_
    refine lv_iinc (v := (nI (5 * (t + 1)))) (lv' := [(4, .int (nI (5 * (t + 1)))), (6, .int ((X1_fuse rfu (xs (5 * t + 1)) (xs (5 * t + 2))).1)), (5, .int 0), (0, .ref b), (1, .ref h), (2, .ref h2), (3, .ref o)]) hx hb dL_law_1215 hl (k := 6) rfl (nI_add (5 * t) 5) (by decide) rfl (fun ls hl => ?_)
    refine lv_goto (tgt := 23) hx hb dL_law_1218 (by decide) ?_
    refine W.widen (k := 22 + (t + 1)) (n := 170 + 6 * (t + 1)) (by omega) (by omega) ?_
    exact next _ _ _ _ _ _ _ _ _ _ _ _ _ _ _ _ _ _ _ _ _ _ _ _ _ _ _ _ _ _ _ _ _ _ hR1 H locs ls hP hD hS (lv_sub hl [3, 4, 5, 6, 0] rfl)
  · refine kl_bad (rest := []) (As := [.ref h, .int (xs (5 * t + 1)), .int (xs (5 * t + 2)), .ref o]) hC (cx_L_fuse l hl0 dC dI cI cZ cL h a qph qgr qne qap qle qfu qpc qgd qri qnw qtk qsv qwa qgi qlo qtu (xs (5 * t + 1)) (xs (5 * t + 2)) o og  hT) (vx_cwSW 4 hC.2.2.2.2 gL_law_L_fuse rfl rfl rfl hdL_fuse ⟨Nat.le_of_ble_eq_true rfl, Nat.le_of_ble_eq_true rfl⟩) hK hNs hZ hP hD hS hA rfl hl.1 (Nat.le_of_ble_eq_true rfl) dL_law_226 rfl ⟨by show 22 + t + 1 ≤ 1052; omega, by show 170 + 6 * t + 6 ≤ 8398; omega⟩ (fun H locs hP hD hS => ?_)
    obtain ⟨e1, hR1⟩ := R_fuse_bad qwa qgi qlo qtu rgi rpa rth (xs (5 * t + 1)) (xs (5 * t + 2)) ht hR hT
    refine lv_istore (lv' := [(5, .int (X0_fuse_T (xs (5 * t + 1)) (xs (5 * t + 2)))), (0, .ref b), (1, .ref h), (2, .ref h2), (3, .ref o), (4, .int (nI (5 * t)))]) hx hb dL_law_229 hl (by decide) rfl (fun ls hl => ?_)
    refine lv_aload_n hx hb dL_law_231 rfl (lv_at hl 3 rfl) ?_
    refine lv_aload_n hx hb dL_law_232 rfl (lv_at hl 1 rfl) ?_
    refine lv_iload hx hb dL_law_233 (lv_at hl 5 rfl) ?_
    refine lv_iconst (v := 1) hx hb dL_law_235 (by decide) ?_
    refine lv_iadd hx hb dL_law_236 ?_
    refine kl_sld hx hb hX hbl hS (t := t) (k := 1) (nI_add (5 * t) 1) (by omega) hL dL_law_237 ?_
    refine lv_aload_n hx hb dL_law_238 rfl (lv_at hl 1 rfl) ?_
    refine lv_iload hx hb dL_law_239 (lv_at hl 5 rfl) ?_
    refine lv_iconst (v := 2) hx hb dL_law_241 (by decide) ?_
    refine lv_iadd hx hb dL_law_242 ?_
    refine kl_sld hx hb hX hbl hS (t := t) (k := 2) (nI_add (5 * t) 2) (by omega) hL dL_law_243 ?_
    refine kf_calliR (wr := (xW cI cZ h a qph qgr qne qap qle qfu qpc qgd qri qnw qtk qsv qwa qgi qlo qtu ++ oW cL o og)) (rest := []) (q0 := 0) hC (c_X1_fuse l dC dI cI cZ h2 a2 rpt rph rgr rca rne rap rle rfu rba rru rti rtk rsv rgi rpa rth (xs (5 * t + 1)) (xs (5 * t + 2))) (cwV 2 hC.2.2.2.2 gL_law_X1_fuse rfl rfl rfl hd_X1_fuse ⟨Nat.le_of_ble_eq_true rfl, Nat.le_of_ble_eq_true rfl⟩) (k_sub3 hK) hP hD hS hA rfl rfl rfl hl.1 (Nat.le_of_ble_eq_true rfl) dL_law_244 rfl ⟨by show (22 + t + 1) ≤ 1052; omega, by show (170 + 6 * t + 6) ≤ 8398; omega⟩ (fun H locs hP hD hS => ?_)
    refine lv_istore (lv' := [(6, .int ((X1_fuse rfu (xs (5 * t + 1)) (xs (5 * t + 2))).1)), (5, .int (X0_fuse_T (xs (5 * t + 1)) (xs (5 * t + 2)))), (0, .ref b), (1, .ref h), (2, .ref h2), (3, .ref o), (4, .int (nI (5 * t)))]) hx hb dL_law_247 hl (by decide) rfl (fun ls hl => ?_)
    refine lv_aload_n hx hb dL_law_249 rfl (lv_at hl 4 rfl) ?_
    refine kf_calliR (wr := (xW cI cZ h a qph qgr qne qap qle qfu qpc qgd qri qnw qtk qsv qwa qgi qlo qtu ++ oW cL o og)) (rest := []) (q0 := 0) hC (c_X1_thrown l dC dI cI cZ h2 a2 rpt rph rgr rca rne rap rle ((X1_fuse rfu (xs (5 * t + 1)) (xs (5 * t + 2))).2.1) rba rru rti rtk rsv rgi rpa ((X1_fuse rfu (xs (5 * t + 1)) (xs (5 * t + 2))).2.2)) (cwV 0 hC.2.2.2.2 gL_law_X1_thrown rfl rfl rfl hd_X1_thrown ⟨Nat.le_of_ble_eq_true rfl, Nat.le_of_ble_eq_true rfl⟩) (k_sub3 hK) hP hD hS hA rfl rfl rfl hl.1 (Nat.le_of_ble_eq_true rfl) dL_law_250 rfl ⟨by show (22 + t + 1) ≤ 1052; omega, by show (170 + 6 * t + 6) ≤ 8398; omega⟩ (fun H locs hP hD hS => ?_)
    refine lv_iload hx hb dL_law_253 (lv_at hl 1 rfl) ?_
    refine lv_icmp_eq (tgt := 260) hx hb dL_law_255 (by decide) (fun _ => ?_) (fun c => absurd e1 c)
    refine lv_iload hx hb dL_law_260 (lv_at hl 1 rfl) ?_
    refine lv_if_ne (tgt := 277) hx hb dL_law_262 (by decide) (fun _ => ?_) (fun c => absurd c hT)
    refine lv_goto (tgt := 1215) hx hb dL_law_277 (by decide) ?_
    refine lv_iinc (v := (nI (5 * (t + 1)))) (lv' := [(4, .int (nI (5 * (t + 1)))), (6, .int ((X1_fuse rfu (xs (5 * t + 1)) (xs (5 * t + 2))).1)), (5, .int (X0_fuse_T (xs (5 * t + 1)) (xs (5 * t + 2)))), (0, .ref b), (1, .ref h), (2, .ref h2), (3, .ref o)]) hx hb dL_law_1215 hl (k := 6) rfl (nI_add (5 * t) 5) (by decide) rfl (fun ls hl => ?_)
    refine lv_goto (tgt := 23) hx hb dL_law_1218 (by decide) ?_
    refine W.widen (k := 22 + (t + 1)) (n := 170 + 6 * (t + 1)) (by omega) (by omega) ?_
    exact next _ _ _ _ _ _ _ _ _ _ _ _ _ _ _ _ _ _ _ _ _ _ _ _ _ _ _ _ _ _ _ _ _ _ hR1 H locs ls hP hD hS (lv_sub hl [3, 4, 5, 6, 0] rfl)
set_option maxHeartbeats 4000000 in
set_option maxRecDepth 100000 in
theorem case_balance {p : Program} {l : Launch} {e : Env} {s : State} {m : MethodId} {args : Array Value} {below : List Frame} {meth : Method} {c : Code} {Q : State → Prop} {dC : Nat → ClassId} {dI : Nat → Nat → Nat} {cI cZ cL : ClassId} {b L : Nat} {xs : Nat → Int32} {h h2 o : Nat} {a a2 : Nat → Nat} {t n : Nat} {qph : AR} {qgr : AR} {qne : AR} {qap : AR} {qle : AR} {qfu : AR} {qpc : Int32} {qgd : Int32} {qri : Int32} {qnw : Int32} {qtk : Int32} {qsv : Int32} {qwa : AR} {qgi : AR} {qlo : AR} {qtu : AR} {rpt : Int32} {rph : AR} {rgr : AR} {rca : AR} {rne : AR} {rap : AR} {rle : AR} {rfu : AR} {rba : Int32} {rru : Int32} {rti : Int32} {rtk : Int32} {rsv : Int32} {rgi : AR} {rpa : AR} {rth : Int32} {og : Nat → Int64} (hC : CallFix p m c cL_law 7 s args wsL_law RL) (hl0 : l.stackTraces = false) (hX : va_X b L xs s s.heap) (hbl : b < s.heap.size) (hL : L ≤ 2560) (hK : va_K (dC, dI) vwCl (kT3 cI cZ cL) s) (hNs : kN s) (hZ : kZ (fun q : Nat => s.heap.size ≤ q) s s.heap) (ht : t < 512) (htL : 5 * t + 4 < L) (hR : Rel t n qph qgr qne qap qle qfu qpc qgd qri qnw qtk qsv rpt rph rgr rca rne rap rle rfu rba rru rti rtk rsv) (next : (∀ (n : Nat) (qph : AR) (qgr : AR) (qne : AR) (qap : AR) (qle : AR) (qfu : AR) (qpc : Int32) (qgd : Int32) (qri : Int32) (qnw : Int32) (qtk : Int32) (qsv : Int32) (qwa : AR) (qgi : AR) (qlo : AR) (qtu : AR) (rpt : Int32) (rph : AR) (rgr : AR) (rca : AR) (rne : AR) (rap : AR) (rle : AR) (rfu : AR) (rba : Int32) (rru : Int32) (rti : Int32) (rtk : Int32) (rsv : Int32) (rgi : AR) (rpa : AR) (rth : Int32) (og : Nat → Int64), Rel (t + 1) n qph qgr qne qap qle qfu qpc qgd qri qnw qtk qsv rpt rph rgr rca rne rap rle rfu rba rru rti rtk rsv → ∀ (H : Heap) (locs : List Loc) (ls : Array Slot), va_P (dC, dI) vwCl ((xW cI cZ h a qph qgr qne qap qle qfu qpc qgd qri qnw qtk qsv qwa qgi qlo qtu ++ oW cL o og) ++ mW cI cZ h2 a2 rpt rph rgr rca rne rap rle rfu rba rru rti rtk rsv rgi rpa rth) H → va_D (fun q : Nat => s.heap.size ≤ q) ((xW cI cZ h a qph qgr qne qap qle qfu qpc qgd qri qnw qtk qsv qwa qgi qlo qtu ++ oW cL o og) ++ mW cI cZ h2 a2 rpt rph rgr rca rne rap rle rfu rba rru rti rtk rsv rgi rpa rth) → va_S (fun q : Nat => s.heap.size ≤ q) s.heap H locs → lv_has ls 7 [(0, .ref b), (1, .ref h), (2, .ref h2), (3, .ref o), (4, .int (nI (5 * (t + 1))))] → W p l e room_1 s m args below meth c H locs (22 + (t + 1)) (170 + 6 * (t + 1)) Q (F0 m 23 ls []))) {H : Heap} {locs : List Loc} {ls : Array Slot} (hP : va_P (dC, dI) vwCl ((xW cI cZ h a qph qgr qne qap qle qfu qpc qgd qri qnw qtk qsv qwa qgi qlo qtu ++ oW cL o og) ++ mW cI cZ h2 a2 rpt rph rgr rca rne rap rle rfu rba rru rti rtk rsv rgi rpa rth) H) (hD : va_D (fun q : Nat => s.heap.size ≤ q) ((xW cI cZ h a qph qgr qne qap qle qfu qpc qgd qri qnw qtk qsv qwa qgi qlo qtu ++ oW cL o og) ++ mW cI cZ h2 a2 rpt rph rgr rca rne rap rle rfu rba rru rti rtk rsv rgi rpa rth)) (hS : va_S (fun q : Nat => s.heap.size ≤ q) s.heap H locs) (hl : lv_has ls 7 [(0, .ref b), (1, .ref h), (2, .ref h2), (3, .ref o), (4, .int (nI (5 * t)))]) : W p l e room_1 s m args below meth c H locs (22 + t) (170 + 6 * t) Q (F0 m 280 ls []) := by
  obtain ⟨hx, hb, hml, hown, hts⟩ := id hC
  have hA : ∀ q : Nat, s.heap.size ≤ q → (fun q : Nat => s.heap.size ≤ q) q := fun _ h => h
  refine lv_aload_n hx hb dL_law_280 rfl (lv_at hl 1 rfl) ?_
  refine lv_aload_n hx hb dL_law_281 rfl (lv_at hl 0 rfl) ?_
  refine lv_iload hx hb dL_law_282 (lv_at hl 4 rfl) ?_
  refine lv_iconst (v := 1) hx hb dL_law_284 (by decide) ?_
  refine lv_iadd hx hb dL_law_285 ?_
  refine kl_sld hx hb hX hbl hS (t := t) (k := 1) (nI_add (5 * t) 1) (by omega) hL dL_law_286 ?_
  refine lv_aload_n hx hb dL_law_287 rfl (lv_at hl 3 rfl) ?_
  by_cases hT : (X0_balance_T (xs (5 * t + 1))) = 0
  · refine kl_ok (rest := []) (As := [.ref h, .int (xs (5 * t + 1)), .ref o]) hC (c_L_balance l dC dI cI cZ cL h a qph qgr qne qap qle qfu qpc qgd qri qnw qtk qsv qwa qgi qlo qtu (xs (5 * t + 1)) o og  hT) (vx_cwSW 3 hC.2.2.2.2 gL_law_L_balance rfl rfl rfl hdL_balance ⟨Nat.le_of_ble_eq_true rfl, Nat.le_of_ble_eq_true rfl⟩) hK hP hD hS hA rfl hl.1 (Nat.le_of_ble_eq_true rfl) dL_law_288 rfl ⟨by show 22 + t ≤ 1052; omega, by show 170 + 6 * t ≤ 8398; omega⟩ (fun H locs hP hD hS => ?_)
    obtain ⟨e1, e2, hR1⟩ := R_balance_ok qwa qgi qlo qtu rgi rpa rth (xs (5 * t + 1)) ht hR hT
    refine lv_istore (lv' := [(5, .int 0), (0, .ref b), (1, .ref h), (2, .ref h2), (3, .ref o), (4, .int (nI (5 * t)))]) hx hb dL_law_291 hl (by decide) rfl (fun ls hl => ?_)
    refine lv_aload_n hx hb dL_law_293 rfl (lv_at hl 3 rfl) ?_
    refine lv_aload_n hx hb dL_law_294 rfl (lv_at hl 1 rfl) ?_
    refine lv_iload hx hb dL_law_295 (lv_at hl 5 rfl) ?_
    refine lv_iconst (v := 1) hx hb dL_law_297 (by decide) ?_
    refine lv_iadd hx hb dL_law_298 ?_
    refine kl_sld hx hb hX hbl hS (t := t) (k := 1) (nI_add (5 * t) 1) (by omega) hL dL_law_299 ?_
    refine kf_calliR (wr := (xW cI cZ h a qph qgr qne qap qle qfu qpc ((X0_balance qgd (xs (5 * t + 1))).2) qri qnw qtk qsv qwa qgi qlo qtu ++ oW cL o (vp_updL og (0 : Int32).toNatClampNeg ((X0_balance qgd (xs (5 * t + 1))).1).toInt64))) (rest := []) (q0 := 0) hC (c_X1_balance l dC dI cI cZ h2 a2 rpt rph rgr rca rne rap rle rfu rba rru rti rtk rsv rgi rpa rth (xs (5 * t + 1))) (cwV 1 hC.2.2.2.2 gL_law_X1_balance rfl rfl rfl hd_X1_balance ⟨Nat.le_of_ble_eq_true rfl, Nat.le_of_ble_eq_true rfl⟩) (k_sub3 hK) hP hD hS hA rfl rfl rfl hl.1 (Nat.le_of_ble_eq_true rfl) dL_law_300 rfl ⟨by show (22 + t) ≤ 1052; omega, by show (170 + 6 * t) ≤ 8398; omega⟩ (fun H locs hP hD hS => ?_)
    refine lv_istore (lv' := [(6, .int ((X1_balance rba (xs (5 * t + 1))).1)), (5, .int 0), (0, .ref b), (1, .ref h), (2, .ref h2), (3, .ref o), (4, .int (nI (5 * t)))]) hx hb dL_law_303 hl (by decide) rfl (fun ls hl => ?_)
    refine lv_aload_n hx hb dL_law_305 rfl (lv_at hl 4 rfl) ?_
    refine kf_calliR (wr := (xW cI cZ h a qph qgr qne qap qle qfu qpc ((X0_balance qgd (xs (5 * t + 1))).2) qri qnw qtk qsv qwa qgi qlo qtu ++ oW cL o (vp_updL og (0 : Int32).toNatClampNeg ((X0_balance qgd (xs (5 * t + 1))).1).toInt64))) (rest := []) (q0 := 0) hC (c_X1_thrown l dC dI cI cZ h2 a2 rpt rph rgr rca rne rap rle rfu ((X1_balance rba (xs (5 * t + 1))).2.1) rru rti rtk rsv rgi rpa ((X1_balance rba (xs (5 * t + 1))).2.2)) (cwV 0 hC.2.2.2.2 gL_law_X1_thrown rfl rfl rfl hd_X1_thrown ⟨Nat.le_of_ble_eq_true rfl, Nat.le_of_ble_eq_true rfl⟩) (k_sub3 hK) hP hD hS hA rfl rfl rfl hl.1 (Nat.le_of_ble_eq_true rfl) dL_law_306 rfl ⟨by show (22 + t) ≤ 1052; omega, by show (170 + 6 * t) ≤ 8398; omega⟩ (fun H locs hP hD hS => ?_)
    refine lv_iload hx hb dL_law_309 (lv_at hl 1 rfl) ?_
    refine lv_icmp_eq (tgt := 316) hx hb dL_law_311 (by decide) (fun _ => ?_) (fun c => absurd e1 c)
    refine lv_iload hx hb dL_law_316 (lv_at hl 1 rfl) ?_
    refine lv_if_ne (tgt := 333) hx hb dL_law_318 (by decide) (fun c => absurd rfl c) (fun _ => ?_)
    refine lv_aload_n hx hb dL_law_321 rfl (lv_at hl 5 rfl) ?_
    refine lv_iconst (v := 0) hx hb dL_law_322 (by decide) ?_
    refine va_lald (f := (vp_updL og (0 : Int32).toNatClampNeg ((X0_balance qgd (xs (5 * t + 1))).1).toInt64)) hx hb hK hP 11 2 rfl rfl vpc0_1 dL_law_323 ?_
    refine lv_iload hx hb dL_law_324 (lv_at hl 0 rfl) ?_
    refine lv_i2l hx hb dL_law_326 rfl ?_
    refine W.lcmp hx hb dL_law_327 ?_
    refine lv_if_eq (tgt := 333) hx hb dL_law_328 (by decide) (fun _ => ?_) (fun c => absurd (kl_cmp e2) c)
    refine lv_goto (tgt := 1215) hx hb dL_law_333 (by decide) ?_
    refine lv_iinc (v := (nI (5 * (t + 1)))) (lv' := [(4, .int (nI (5 * (t + 1)))), (6, .int ((X1_balance rba (xs (5 * t + 1))).1)), (5, .int 0), (0, .ref b), (1, .ref h), (2, .ref h2), (3, .ref o)]) hx hb dL_law_1215 hl (k := 6) rfl (nI_add (5 * t) 5) (by decide) rfl (fun ls hl => ?_)
    refine lv_goto (tgt := 23) hx hb dL_law_1218 (by decide) ?_
    refine W.widen (k := 22 + (t + 1)) (n := 170 + 6 * (t + 1)) (by omega) (by omega) ?_
    exact next _ _ _ _ _ _ _ _ _ _ _ _ _ _ _ _ _ _ _ _ _ _ _ _ _ _ _ _ _ _ _ _ _ _ hR1 H locs ls hP hD hS (lv_sub hl [3, 4, 5, 6, 0] rfl)
  · refine kl_bad (rest := []) (As := [.ref h, .int (xs (5 * t + 1)), .ref o]) hC (cx_L_balance l hl0 dC dI cI cZ cL h a qph qgr qne qap qle qfu qpc qgd qri qnw qtk qsv qwa qgi qlo qtu (xs (5 * t + 1)) o og  hT) (vx_cwSW 3 hC.2.2.2.2 gL_law_L_balance rfl rfl rfl hdL_balance ⟨Nat.le_of_ble_eq_true rfl, Nat.le_of_ble_eq_true rfl⟩) hK hNs hZ hP hD hS hA rfl hl.1 (Nat.le_of_ble_eq_true rfl) dL_law_288 rfl ⟨by show 22 + t + 1 ≤ 1052; omega, by show 170 + 6 * t + 6 ≤ 8398; omega⟩ (fun H locs hP hD hS => ?_)
    obtain ⟨e1, hR1⟩ := R_balance_bad qwa qgi qlo qtu rgi rpa rth (xs (5 * t + 1)) ht hR hT
    refine lv_istore (lv' := [(5, .int (X0_balance_T (xs (5 * t + 1)))), (0, .ref b), (1, .ref h), (2, .ref h2), (3, .ref o), (4, .int (nI (5 * t)))]) hx hb dL_law_291 hl (by decide) rfl (fun ls hl => ?_)
    refine lv_aload_n hx hb dL_law_293 rfl (lv_at hl 3 rfl) ?_
    refine lv_aload_n hx hb dL_law_294 rfl (lv_at hl 1 rfl) ?_
    refine lv_iload hx hb dL_law_295 (lv_at hl 5 rfl) ?_
    refine lv_iconst (v := 1) hx hb dL_law_297 (by decide) ?_
    refine lv_iadd hx hb dL_law_298 ?_
    refine kl_sld hx hb hX hbl hS (t := t) (k := 1) (nI_add (5 * t) 1) (by omega) hL dL_law_299 ?_
    refine kf_calliR (wr := (xW cI cZ h a qph qgr qne qap qle qfu qpc qgd qri qnw qtk qsv qwa qgi qlo qtu ++ oW cL o og)) (rest := []) (q0 := 0) hC (c_X1_balance l dC dI cI cZ h2 a2 rpt rph rgr rca rne rap rle rfu rba rru rti rtk rsv rgi rpa rth (xs (5 * t + 1))) (cwV 1 hC.2.2.2.2 gL_law_X1_balance rfl rfl rfl hd_X1_balance ⟨Nat.le_of_ble_eq_true rfl, Nat.le_of_ble_eq_true rfl⟩) (k_sub3 hK) hP hD hS hA rfl rfl rfl hl.1 (Nat.le_of_ble_eq_true rfl) dL_law_300 rfl ⟨by show (22 + t + 1) ≤ 1052; omega, by show (170 + 6 * t + 6) ≤ 8398; omega⟩ (fun H locs hP hD hS => ?_)
    refine lv_istore (lv' := [(6, .int ((X1_balance rba (xs (5 * t + 1))).1)), (5, .int (X0_balance_T (xs (5 * t + 1)))), (0, .ref b), (1, .ref h), (2, .ref h2), (3, .ref o), (4, .int (nI (5 * t)))]) hx hb dL_law_303 hl (by decide) rfl (fun ls hl => ?_)
    refine lv_aload_n hx hb dL_law_305 rfl (lv_at hl 4 rfl) ?_
    refine kf_calliR (wr := (xW cI cZ h a qph qgr qne qap qle qfu qpc qgd qri qnw qtk qsv qwa qgi qlo qtu ++ oW cL o og)) (rest := []) (q0 := 0) hC (c_X1_thrown l dC dI cI cZ h2 a2 rpt rph rgr rca rne rap rle rfu ((X1_balance rba (xs (5 * t + 1))).2.1) rru rti rtk rsv rgi rpa ((X1_balance rba (xs (5 * t + 1))).2.2)) (cwV 0 hC.2.2.2.2 gL_law_X1_thrown rfl rfl rfl hd_X1_thrown ⟨Nat.le_of_ble_eq_true rfl, Nat.le_of_ble_eq_true rfl⟩) (k_sub3 hK) hP hD hS hA rfl rfl rfl hl.1 (Nat.le_of_ble_eq_true rfl) dL_law_306 rfl ⟨by show (22 + t + 1) ≤ 1052; omega, by show (170 + 6 * t + 6) ≤ 8398; omega⟩ (fun H locs hP hD hS => ?_)
    refine lv_iload hx hb dL_law_309 (lv_at hl 1 rfl) ?_
    refine lv_icmp_eq (tgt := 316) hx hb dL_law_311 (by decide) (fun _ => ?_) (fun c => absurd e1 c)
    refine lv_iload hx hb dL_law_316 (lv_at hl 1 rfl) ?_
    refine lv_if_ne (tgt := 333) hx hb dL_law_318 (by decide) (fun _ => ?_) (fun c => absurd c hT)
    refine lv_goto (tgt := 1215) hx hb dL_law_333 (by decide) ?_
    refine lv_iinc (v := (nI (5 * (t + 1)))) (lv' := [(4, .int (nI (5 * (t + 1)))), (6, .int ((X1_balance rba (xs (5 * t + 1))).1)), (5, .int (X0_balance_T (xs (5 * t + 1)))), (0, .ref b), (1, .ref h), (2, .ref h2), (3, .ref o)]) hx hb dL_law_1215 hl (k := 6) rfl (nI_add (5 * t) 5) (by decide) rfl (fun ls hl => ?_)
    refine lv_goto (tgt := 23) hx hb dL_law_1218 (by decide) ?_
    refine W.widen (k := 22 + (t + 1)) (n := 170 + 6 * (t + 1)) (by omega) (by omega) ?_
    exact next _ _ _ _ _ _ _ _ _ _ _ _ _ _ _ _ _ _ _ _ _ _ _ _ _ _ _ _ _ _ _ _ _ _ hR1 H locs ls hP hD hS (lv_sub hl [3, 4, 5, 6, 0] rfl)
set_option maxHeartbeats 4000000 in
set_option maxRecDepth 100000 in
theorem case_rule {p : Program} {l : Launch} {e : Env} {s : State} {m : MethodId} {args : Array Value} {below : List Frame} {meth : Method} {c : Code} {Q : State → Prop} {dC : Nat → ClassId} {dI : Nat → Nat → Nat} {cI cZ cL : ClassId} {b L : Nat} {xs : Nat → Int32} {h h2 o : Nat} {a a2 : Nat → Nat} {t n : Nat} {qph : AR} {qgr : AR} {qne : AR} {qap : AR} {qle : AR} {qfu : AR} {qpc : Int32} {qgd : Int32} {qri : Int32} {qnw : Int32} {qtk : Int32} {qsv : Int32} {qwa : AR} {qgi : AR} {qlo : AR} {qtu : AR} {rpt : Int32} {rph : AR} {rgr : AR} {rca : AR} {rne : AR} {rap : AR} {rle : AR} {rfu : AR} {rba : Int32} {rru : Int32} {rti : Int32} {rtk : Int32} {rsv : Int32} {rgi : AR} {rpa : AR} {rth : Int32} {og : Nat → Int64} (hC : CallFix p m c cL_law 7 s args wsL_law RL) (hl0 : l.stackTraces = false) (hX : va_X b L xs s s.heap) (hbl : b < s.heap.size) (hL : L ≤ 2560) (hK : va_K (dC, dI) vwCl (kT3 cI cZ cL) s) (hNs : kN s) (hZ : kZ (fun q : Nat => s.heap.size ≤ q) s s.heap) (ht : t < 512) (htL : 5 * t + 4 < L) (hR : Rel t n qph qgr qne qap qle qfu qpc qgd qri qnw qtk qsv rpt rph rgr rca rne rap rle rfu rba rru rti rtk rsv) (next : (∀ (n : Nat) (qph : AR) (qgr : AR) (qne : AR) (qap : AR) (qle : AR) (qfu : AR) (qpc : Int32) (qgd : Int32) (qri : Int32) (qnw : Int32) (qtk : Int32) (qsv : Int32) (qwa : AR) (qgi : AR) (qlo : AR) (qtu : AR) (rpt : Int32) (rph : AR) (rgr : AR) (rca : AR) (rne : AR) (rap : AR) (rle : AR) (rfu : AR) (rba : Int32) (rru : Int32) (rti : Int32) (rtk : Int32) (rsv : Int32) (rgi : AR) (rpa : AR) (rth : Int32) (og : Nat → Int64), Rel (t + 1) n qph qgr qne qap qle qfu qpc qgd qri qnw qtk qsv rpt rph rgr rca rne rap rle rfu rba rru rti rtk rsv → ∀ (H : Heap) (locs : List Loc) (ls : Array Slot), va_P (dC, dI) vwCl ((xW cI cZ h a qph qgr qne qap qle qfu qpc qgd qri qnw qtk qsv qwa qgi qlo qtu ++ oW cL o og) ++ mW cI cZ h2 a2 rpt rph rgr rca rne rap rle rfu rba rru rti rtk rsv rgi rpa rth) H → va_D (fun q : Nat => s.heap.size ≤ q) ((xW cI cZ h a qph qgr qne qap qle qfu qpc qgd qri qnw qtk qsv qwa qgi qlo qtu ++ oW cL o og) ++ mW cI cZ h2 a2 rpt rph rgr rca rne rap rle rfu rba rru rti rtk rsv rgi rpa rth) → va_S (fun q : Nat => s.heap.size ≤ q) s.heap H locs → lv_has ls 7 [(0, .ref b), (1, .ref h), (2, .ref h2), (3, .ref o), (4, .int (nI (5 * (t + 1))))] → W p l e room_1 s m args below meth c H locs (22 + (t + 1)) (170 + 6 * (t + 1)) Q (F0 m 23 ls []))) {H : Heap} {locs : List Loc} {ls : Array Slot} (hP : va_P (dC, dI) vwCl ((xW cI cZ h a qph qgr qne qap qle qfu qpc qgd qri qnw qtk qsv qwa qgi qlo qtu ++ oW cL o og) ++ mW cI cZ h2 a2 rpt rph rgr rca rne rap rle rfu rba rru rti rtk rsv rgi rpa rth) H) (hD : va_D (fun q : Nat => s.heap.size ≤ q) ((xW cI cZ h a qph qgr qne qap qle qfu qpc qgd qri qnw qtk qsv qwa qgi qlo qtu ++ oW cL o og) ++ mW cI cZ h2 a2 rpt rph rgr rca rne rap rle rfu rba rru rti rtk rsv rgi rpa rth)) (hS : va_S (fun q : Nat => s.heap.size ≤ q) s.heap H locs) (hl : lv_has ls 7 [(0, .ref b), (1, .ref h), (2, .ref h2), (3, .ref o), (4, .int (nI (5 * t)))]) : W p l e room_1 s m args below meth c H locs (22 + t) (170 + 6 * t) Q (F0 m 336 ls []) := by
  obtain ⟨hx, hb, hml, hown, hts⟩ := id hC
  have hA : ∀ q : Nat, s.heap.size ≤ q → (fun q : Nat => s.heap.size ≤ q) q := fun _ h => h
  refine lv_aload_n hx hb dL_law_336 rfl (lv_at hl 1 rfl) ?_
  refine lv_aload_n hx hb dL_law_337 rfl (lv_at hl 0 rfl) ?_
  refine lv_iload hx hb dL_law_338 (lv_at hl 4 rfl) ?_
  refine lv_iconst (v := 1) hx hb dL_law_340 (by decide) ?_
  refine lv_iadd hx hb dL_law_341 ?_
  refine kl_sld hx hb hX hbl hS (t := t) (k := 1) (nI_add (5 * t) 1) (by omega) hL dL_law_342 ?_
  refine lv_aload_n hx hb dL_law_343 rfl (lv_at hl 3 rfl) ?_
  by_cases hT : (X0_rule_T (xs (5 * t + 1))) = 0
  · refine kl_ok (rest := []) (As := [.ref h, .int (xs (5 * t + 1)), .ref o]) hC (c_L_rule l dC dI cI cZ cL h a qph qgr qne qap qle qfu qpc qgd qri qnw qtk qsv qwa qgi qlo qtu (xs (5 * t + 1)) o og  hT) (vx_cwSW 3 hC.2.2.2.2 gL_law_L_rule rfl rfl rfl hdL_rule ⟨Nat.le_of_ble_eq_true rfl, Nat.le_of_ble_eq_true rfl⟩) hK hP hD hS hA rfl hl.1 (Nat.le_of_ble_eq_true rfl) dL_law_344 rfl ⟨by show 22 + t ≤ 1052; omega, by show 170 + 6 * t ≤ 8398; omega⟩ (fun H locs hP hD hS => ?_)
    obtain ⟨e1, e2, hR1⟩ := R_rule_ok qwa qgi qlo qtu rgi rpa rth (xs (5 * t + 1)) ht hR hT
    refine lv_istore (lv' := [(5, .int 0), (0, .ref b), (1, .ref h), (2, .ref h2), (3, .ref o), (4, .int (nI (5 * t)))]) hx hb dL_law_347 hl (by decide) rfl (fun ls hl => ?_)
    refine lv_aload_n hx hb dL_law_349 rfl (lv_at hl 3 rfl) ?_
    refine lv_aload_n hx hb dL_law_350 rfl (lv_at hl 1 rfl) ?_
    refine lv_iload hx hb dL_law_351 (lv_at hl 5 rfl) ?_
    refine lv_iconst (v := 1) hx hb dL_law_353 (by decide) ?_
    refine lv_iadd hx hb dL_law_354 ?_
    refine kl_sld hx hb hX hbl hS (t := t) (k := 1) (nI_add (5 * t) 1) (by omega) hL dL_law_355 ?_
    refine kf_calliR (wr := (xW cI cZ h a qph qgr qne qap qle qfu qpc qgd ((X0_rule qri (xs (5 * t + 1))).2) qnw qtk qsv qwa qgi qlo qtu ++ oW cL o (vp_updL og (0 : Int32).toNatClampNeg ((X0_rule qri (xs (5 * t + 1))).1).toInt64))) (rest := []) (q0 := 0) hC (c_X1_rule l dC dI cI cZ h2 a2 rpt rph rgr rca rne rap rle rfu rba rru rti rtk rsv rgi rpa rth (xs (5 * t + 1))) (cwV 1 hC.2.2.2.2 gL_law_X1_rule rfl rfl rfl hd_X1_rule ⟨Nat.le_of_ble_eq_true rfl, Nat.le_of_ble_eq_true rfl⟩) (k_sub3 hK) hP hD hS hA rfl rfl rfl hl.1 (Nat.le_of_ble_eq_true rfl) dL_law_356 rfl ⟨by show (22 + t) ≤ 1052; omega, by show (170 + 6 * t) ≤ 8398; omega⟩ (fun H locs hP hD hS => ?_)
    refine lv_istore (lv' := [(6, .int ((X1_rule rru (xs (5 * t + 1))).1)), (5, .int 0), (0, .ref b), (1, .ref h), (2, .ref h2), (3, .ref o), (4, .int (nI (5 * t)))]) hx hb dL_law_359 hl (by decide) rfl (fun ls hl => ?_)
    refine lv_aload_n hx hb dL_law_361 rfl (lv_at hl 4 rfl) ?_
    refine kf_calliR (wr := (xW cI cZ h a qph qgr qne qap qle qfu qpc qgd ((X0_rule qri (xs (5 * t + 1))).2) qnw qtk qsv qwa qgi qlo qtu ++ oW cL o (vp_updL og (0 : Int32).toNatClampNeg ((X0_rule qri (xs (5 * t + 1))).1).toInt64))) (rest := []) (q0 := 0) hC (c_X1_thrown l dC dI cI cZ h2 a2 rpt rph rgr rca rne rap rle rfu rba ((X1_rule rru (xs (5 * t + 1))).2.1) rti rtk rsv rgi rpa ((X1_rule rru (xs (5 * t + 1))).2.2)) (cwV 0 hC.2.2.2.2 gL_law_X1_thrown rfl rfl rfl hd_X1_thrown ⟨Nat.le_of_ble_eq_true rfl, Nat.le_of_ble_eq_true rfl⟩) (k_sub3 hK) hP hD hS hA rfl rfl rfl hl.1 (Nat.le_of_ble_eq_true rfl) dL_law_362 rfl ⟨by show (22 + t) ≤ 1052; omega, by show (170 + 6 * t) ≤ 8398; omega⟩ (fun H locs hP hD hS => ?_)
    refine lv_iload hx hb dL_law_365 (lv_at hl 1 rfl) ?_
    refine lv_icmp_eq (tgt := 372) hx hb dL_law_367 (by decide) (fun _ => ?_) (fun c => absurd e1 c)
    refine lv_iload hx hb dL_law_372 (lv_at hl 1 rfl) ?_
    refine lv_if_ne (tgt := 389) hx hb dL_law_374 (by decide) (fun c => absurd rfl c) (fun _ => ?_)
    refine lv_aload_n hx hb dL_law_377 rfl (lv_at hl 5 rfl) ?_
    refine lv_iconst (v := 0) hx hb dL_law_378 (by decide) ?_
    refine va_lald (f := (vp_updL og (0 : Int32).toNatClampNeg ((X0_rule qri (xs (5 * t + 1))).1).toInt64)) hx hb hK hP 11 2 rfl rfl vpc0_1 dL_law_379 ?_
    refine lv_iload hx hb dL_law_380 (lv_at hl 0 rfl) ?_
    refine lv_i2l hx hb dL_law_382 rfl ?_
    refine W.lcmp hx hb dL_law_383 ?_
    refine lv_if_eq (tgt := 389) hx hb dL_law_384 (by decide) (fun _ => ?_) (fun c => absurd (kl_cmp e2) c)
    refine lv_goto (tgt := 1215) hx hb dL_law_389 (by decide) ?_
    refine lv_iinc (v := (nI (5 * (t + 1)))) (lv' := [(4, .int (nI (5 * (t + 1)))), (6, .int ((X1_rule rru (xs (5 * t + 1))).1)), (5, .int 0), (0, .ref b), (1, .ref h), (2, .ref h2), (3, .ref o)]) hx hb dL_law_1215 hl (k := 6) rfl (nI_add (5 * t) 5) (by decide) rfl (fun ls hl => ?_)
    refine lv_goto (tgt := 23) hx hb dL_law_1218 (by decide) ?_
    refine W.widen (k := 22 + (t + 1)) (n := 170 + 6 * (t + 1)) (by omega) (by omega) ?_
    exact next _ _ _ _ _ _ _ _ _ _ _ _ _ _ _ _ _ _ _ _ _ _ _ _ _ _ _ _ _ _ _ _ _ _ hR1 H locs ls hP hD hS (lv_sub hl [3, 4, 5, 6, 0] rfl)
  · refine kl_bad (rest := []) (As := [.ref h, .int (xs (5 * t + 1)), .ref o]) hC (cx_L_rule l hl0 dC dI cI cZ cL h a qph qgr qne qap qle qfu qpc qgd qri qnw qtk qsv qwa qgi qlo qtu (xs (5 * t + 1)) o og  hT) (vx_cwSW 3 hC.2.2.2.2 gL_law_L_rule rfl rfl rfl hdL_rule ⟨Nat.le_of_ble_eq_true rfl, Nat.le_of_ble_eq_true rfl⟩) hK hNs hZ hP hD hS hA rfl hl.1 (Nat.le_of_ble_eq_true rfl) dL_law_344 rfl ⟨by show 22 + t + 1 ≤ 1052; omega, by show 170 + 6 * t + 6 ≤ 8398; omega⟩ (fun H locs hP hD hS => ?_)
    obtain ⟨e1, hR1⟩ := R_rule_bad qwa qgi qlo qtu rgi rpa rth (xs (5 * t + 1)) ht hR hT
    refine lv_istore (lv' := [(5, .int (X0_rule_T (xs (5 * t + 1)))), (0, .ref b), (1, .ref h), (2, .ref h2), (3, .ref o), (4, .int (nI (5 * t)))]) hx hb dL_law_347 hl (by decide) rfl (fun ls hl => ?_)
    refine lv_aload_n hx hb dL_law_349 rfl (lv_at hl 3 rfl) ?_
    refine lv_aload_n hx hb dL_law_350 rfl (lv_at hl 1 rfl) ?_
    refine lv_iload hx hb dL_law_351 (lv_at hl 5 rfl) ?_
    refine lv_iconst (v := 1) hx hb dL_law_353 (by decide) ?_
    refine lv_iadd hx hb dL_law_354 ?_
    refine kl_sld hx hb hX hbl hS (t := t) (k := 1) (nI_add (5 * t) 1) (by omega) hL dL_law_355 ?_
    refine kf_calliR (wr := (xW cI cZ h a qph qgr qne qap qle qfu qpc qgd qri qnw qtk qsv qwa qgi qlo qtu ++ oW cL o og)) (rest := []) (q0 := 0) hC (c_X1_rule l dC dI cI cZ h2 a2 rpt rph rgr rca rne rap rle rfu rba rru rti rtk rsv rgi rpa rth (xs (5 * t + 1))) (cwV 1 hC.2.2.2.2 gL_law_X1_rule rfl rfl rfl hd_X1_rule ⟨Nat.le_of_ble_eq_true rfl, Nat.le_of_ble_eq_true rfl⟩) (k_sub3 hK) hP hD hS hA rfl rfl rfl hl.1 (Nat.le_of_ble_eq_true rfl) dL_law_356 rfl ⟨by show (22 + t + 1) ≤ 1052; omega, by show (170 + 6 * t + 6) ≤ 8398; omega⟩ (fun H locs hP hD hS => ?_)
    refine lv_istore (lv' := [(6, .int ((X1_rule rru (xs (5 * t + 1))).1)), (5, .int (X0_rule_T (xs (5 * t + 1)))), (0, .ref b), (1, .ref h), (2, .ref h2), (3, .ref o), (4, .int (nI (5 * t)))]) hx hb dL_law_359 hl (by decide) rfl (fun ls hl => ?_)
    refine lv_aload_n hx hb dL_law_361 rfl (lv_at hl 4 rfl) ?_
    refine kf_calliR (wr := (xW cI cZ h a qph qgr qne qap qle qfu qpc qgd qri qnw qtk qsv qwa qgi qlo qtu ++ oW cL o og)) (rest := []) (q0 := 0) hC (c_X1_thrown l dC dI cI cZ h2 a2 rpt rph rgr rca rne rap rle rfu rba ((X1_rule rru (xs (5 * t + 1))).2.1) rti rtk rsv rgi rpa ((X1_rule rru (xs (5 * t + 1))).2.2)) (cwV 0 hC.2.2.2.2 gL_law_X1_thrown rfl rfl rfl hd_X1_thrown ⟨Nat.le_of_ble_eq_true rfl, Nat.le_of_ble_eq_true rfl⟩) (k_sub3 hK) hP hD hS hA rfl rfl rfl hl.1 (Nat.le_of_ble_eq_true rfl) dL_law_362 rfl ⟨by show (22 + t + 1) ≤ 1052; omega, by show (170 + 6 * t + 6) ≤ 8398; omega⟩ (fun H locs hP hD hS => ?_)
    refine lv_iload hx hb dL_law_365 (lv_at hl 1 rfl) ?_
    refine lv_icmp_eq (tgt := 372) hx hb dL_law_367 (by decide) (fun _ => ?_) (fun c => absurd e1 c)
    refine lv_iload hx hb dL_law_372 (lv_at hl 1 rfl) ?_
    refine lv_if_ne (tgt := 389) hx hb dL_law_374 (by decide) (fun _ => ?_) (fun c => absurd c hT)
    refine lv_goto (tgt := 1215) hx hb dL_law_389 (by decide) ?_
    refine lv_iinc (v := (nI (5 * (t + 1)))) (lv' := [(4, .int (nI (5 * (t + 1)))), (6, .int ((X1_rule rru (xs (5 * t + 1))).1)), (5, .int (X0_rule_T (xs (5 * t + 1)))), (0, .ref b), (1, .ref h), (2, .ref h2), (3, .ref o)]) hx hb dL_law_1215 hl (k := 6) rfl (nI_add (5 * t) 5) (by decide) rfl (fun ls hl => ?_)
    refine lv_goto (tgt := 23) hx hb dL_law_1218 (by decide) ?_
    refine W.widen (k := 22 + (t + 1)) (n := 170 + 6 * (t + 1)) (by omega) (by omega) ?_
    exact next _ _ _ _ _ _ _ _ _ _ _ _ _ _ _ _ _ _ _ _ _ _ _ _ _ _ _ _ _ _ _ _ _ _ hR1 H locs ls hP hD hS (lv_sub hl [3, 4, 5, 6, 0] rfl)
set_option maxHeartbeats 4000000 in
set_option maxRecDepth 100000 in
theorem case_plugIn {p : Program} {l : Launch} {e : Env} {s : State} {m : MethodId} {args : Array Value} {below : List Frame} {meth : Method} {c : Code} {Q : State → Prop} {dC : Nat → ClassId} {dI : Nat → Nat → Nat} {cI cZ cL : ClassId} {b L : Nat} {xs : Nat → Int32} {h h2 o : Nat} {a a2 : Nat → Nat} {t n : Nat} {qph : AR} {qgr : AR} {qne : AR} {qap : AR} {qle : AR} {qfu : AR} {qpc : Int32} {qgd : Int32} {qri : Int32} {qnw : Int32} {qtk : Int32} {qsv : Int32} {qwa : AR} {qgi : AR} {qlo : AR} {qtu : AR} {rpt : Int32} {rph : AR} {rgr : AR} {rca : AR} {rne : AR} {rap : AR} {rle : AR} {rfu : AR} {rba : Int32} {rru : Int32} {rti : Int32} {rtk : Int32} {rsv : Int32} {rgi : AR} {rpa : AR} {rth : Int32} {og : Nat → Int64} (hC : CallFix p m c cL_law 7 s args wsL_law RL) (hl0 : l.stackTraces = false) (hX : va_X b L xs s s.heap) (hbl : b < s.heap.size) (hL : L ≤ 2560) (hK : va_K (dC, dI) vwCl (kT3 cI cZ cL) s) (hNs : kN s) (hZ : kZ (fun q : Nat => s.heap.size ≤ q) s s.heap) (ht : t < 512) (htL : 5 * t + 4 < L) (hR : Rel t n qph qgr qne qap qle qfu qpc qgd qri qnw qtk qsv rpt rph rgr rca rne rap rle rfu rba rru rti rtk rsv) (next : (∀ (n : Nat) (qph : AR) (qgr : AR) (qne : AR) (qap : AR) (qle : AR) (qfu : AR) (qpc : Int32) (qgd : Int32) (qri : Int32) (qnw : Int32) (qtk : Int32) (qsv : Int32) (qwa : AR) (qgi : AR) (qlo : AR) (qtu : AR) (rpt : Int32) (rph : AR) (rgr : AR) (rca : AR) (rne : AR) (rap : AR) (rle : AR) (rfu : AR) (rba : Int32) (rru : Int32) (rti : Int32) (rtk : Int32) (rsv : Int32) (rgi : AR) (rpa : AR) (rth : Int32) (og : Nat → Int64), Rel (t + 1) n qph qgr qne qap qle qfu qpc qgd qri qnw qtk qsv rpt rph rgr rca rne rap rle rfu rba rru rti rtk rsv → ∀ (H : Heap) (locs : List Loc) (ls : Array Slot), va_P (dC, dI) vwCl ((xW cI cZ h a qph qgr qne qap qle qfu qpc qgd qri qnw qtk qsv qwa qgi qlo qtu ++ oW cL o og) ++ mW cI cZ h2 a2 rpt rph rgr rca rne rap rle rfu rba rru rti rtk rsv rgi rpa rth) H → va_D (fun q : Nat => s.heap.size ≤ q) ((xW cI cZ h a qph qgr qne qap qle qfu qpc qgd qri qnw qtk qsv qwa qgi qlo qtu ++ oW cL o og) ++ mW cI cZ h2 a2 rpt rph rgr rca rne rap rle rfu rba rru rti rtk rsv rgi rpa rth) → va_S (fun q : Nat => s.heap.size ≤ q) s.heap H locs → lv_has ls 7 [(0, .ref b), (1, .ref h), (2, .ref h2), (3, .ref o), (4, .int (nI (5 * (t + 1))))] → W p l e room_1 s m args below meth c H locs (22 + (t + 1)) (170 + 6 * (t + 1)) Q (F0 m 23 ls []))) {H : Heap} {locs : List Loc} {ls : Array Slot} (hP : va_P (dC, dI) vwCl ((xW cI cZ h a qph qgr qne qap qle qfu qpc qgd qri qnw qtk qsv qwa qgi qlo qtu ++ oW cL o og) ++ mW cI cZ h2 a2 rpt rph rgr rca rne rap rle rfu rba rru rti rtk rsv rgi rpa rth) H) (hD : va_D (fun q : Nat => s.heap.size ≤ q) ((xW cI cZ h a qph qgr qne qap qle qfu qpc qgd qri qnw qtk qsv qwa qgi qlo qtu ++ oW cL o og) ++ mW cI cZ h2 a2 rpt rph rgr rca rne rap rle rfu rba rru rti rtk rsv rgi rpa rth)) (hS : va_S (fun q : Nat => s.heap.size ≤ q) s.heap H locs) (hl : lv_has ls 7 [(0, .ref b), (1, .ref h), (2, .ref h2), (3, .ref o), (4, .int (nI (5 * t)))]) : W p l e room_1 s m args below meth c H locs (22 + t) (170 + 6 * t) Q (F0 m 392 ls []) := by
  obtain ⟨hx, hb, hml, hown, hts⟩ := id hC
  have hA : ∀ q : Nat, s.heap.size ≤ q → (fun q : Nat => s.heap.size ≤ q) q := fun _ h => h
  refine lv_aload_n hx hb dL_law_392 rfl (lv_at hl 1 rfl) ?_
  refine lv_aload_n hx hb dL_law_393 rfl (lv_at hl 0 rfl) ?_
  refine lv_iload hx hb dL_law_394 (lv_at hl 4 rfl) ?_
  refine lv_iconst (v := 1) hx hb dL_law_396 (by decide) ?_
  refine lv_iadd hx hb dL_law_397 ?_
  refine kl_sld hx hb hX hbl hS (t := t) (k := 1) (nI_add (5 * t) 1) (by omega) hL dL_law_398 ?_
  refine lv_aload_n hx hb dL_law_399 rfl (lv_at hl 0 rfl) ?_
  refine lv_iload hx hb dL_law_400 (lv_at hl 4 rfl) ?_
  refine lv_iconst (v := 2) hx hb dL_law_402 (by decide) ?_
  refine lv_iadd hx hb dL_law_403 ?_
  refine kl_sld hx hb hX hbl hS (t := t) (k := 2) (nI_add (5 * t) 2) (by omega) hL dL_law_404 ?_
  refine lv_aload_n hx hb dL_law_405 rfl (lv_at hl 0 rfl) ?_
  refine lv_iload hx hb dL_law_406 (lv_at hl 4 rfl) ?_
  refine lv_iconst (v := 3) hx hb dL_law_408 (by decide) ?_
  refine lv_iadd hx hb dL_law_409 ?_
  refine kl_sld hx hb hX hbl hS (t := t) (k := 3) (nI_add (5 * t) 3) (by omega) hL dL_law_410 ?_
  refine lv_aload_n hx hb dL_law_411 rfl (lv_at hl 0 rfl) ?_
  refine lv_iload hx hb dL_law_412 (lv_at hl 4 rfl) ?_
  refine lv_iconst (v := 4) hx hb dL_law_414 (by decide) ?_
  refine lv_iadd hx hb dL_law_415 ?_
  refine kl_sld hx hb hX hbl hS (t := t) (k := 4) (nI_add (5 * t) 4) (by omega) hL dL_law_416 ?_
  refine lv_aload_n hx hb dL_law_417 rfl (lv_at hl 3 rfl) ?_
  by_cases hT : (X0_plugIn_T qne qpc n (xs (5 * t + 1)) (xs (5 * t + 2)) (xs (5 * t + 3)) (xs (5 * t + 4))) = 0
  · refine kl_ok (rest := []) (As := [.ref h, .int (xs (5 * t + 1)), .int (xs (5 * t + 2)), .int (xs (5 * t + 3)), .int (xs (5 * t + 4)), .ref o]) hC (c_L_plugIn l dC dI cI cZ cL h a qph qgr qne qap qle qfu qpc qgd qri qnw qtk qsv qwa qgi qlo qtu n (xs (5 * t + 1)) (xs (5 * t + 2)) (xs (5 * t + 3)) (xs (5 * t + 4)) o og (Rel.qpc hR) (Rel.n8 hR) hT) (vx_cwSW 6 hC.2.2.2.2 gL_law_L_plugIn rfl rfl rfl hdL_plugIn ⟨Nat.le_of_ble_eq_true rfl, Nat.le_of_ble_eq_true rfl⟩) hK hP hD hS hA rfl hl.1 (Nat.le_of_ble_eq_true rfl) dL_law_418 rfl ⟨by show 22 + t ≤ 1052; omega, by show 170 + 6 * t ≤ 8398; omega⟩ (fun H locs hP hD hS => ?_)
    obtain ⟨e1, e2, hR1⟩ := R_plugIn_ok qwa qgi qlo qtu rgi rpa rth (xs (5 * t + 1)) (xs (5 * t + 2)) (xs (5 * t + 3)) (xs (5 * t + 4)) ht hR hT
    refine lv_istore (lv' := [(5, .int 0), (0, .ref b), (1, .ref h), (2, .ref h2), (3, .ref o), (4, .int (nI (5 * t)))]) hx hb dL_law_421 hl (by decide) rfl (fun ls hl => ?_)
    refine lv_aload_n hx hb dL_law_423 rfl (lv_at hl 3 rfl) ?_
    refine lv_aload_n hx hb dL_law_424 rfl (lv_at hl 1 rfl) ?_
    refine lv_iload hx hb dL_law_425 (lv_at hl 5 rfl) ?_
    refine lv_iconst (v := 1) hx hb dL_law_427 (by decide) ?_
    refine lv_iadd hx hb dL_law_428 ?_
    refine kl_sld hx hb hX hbl hS (t := t) (k := 1) (nI_add (5 * t) 1) (by omega) hL dL_law_429 ?_
    refine lv_aload_n hx hb dL_law_430 rfl (lv_at hl 1 rfl) ?_
    refine lv_iload hx hb dL_law_431 (lv_at hl 5 rfl) ?_
    refine lv_iconst (v := 2) hx hb dL_law_433 (by decide) ?_
    refine lv_iadd hx hb dL_law_434 ?_
    refine kl_sld hx hb hX hbl hS (t := t) (k := 2) (nI_add (5 * t) 2) (by omega) hL dL_law_435 ?_
    refine lv_aload_n hx hb dL_law_436 rfl (lv_at hl 1 rfl) ?_
    refine lv_iload hx hb dL_law_437 (lv_at hl 5 rfl) ?_
    refine lv_iconst (v := 3) hx hb dL_law_439 (by decide) ?_
    refine lv_iadd hx hb dL_law_440 ?_
    refine kl_sld hx hb hX hbl hS (t := t) (k := 3) (nI_add (5 * t) 3) (by omega) hL dL_law_441 ?_
    refine lv_aload_n hx hb dL_law_442 rfl (lv_at hl 1 rfl) ?_
    refine lv_iload hx hb dL_law_443 (lv_at hl 5 rfl) ?_
    refine lv_iconst (v := 4) hx hb dL_law_445 (by decide) ?_
    refine lv_iadd hx hb dL_law_446 ?_
    refine kl_sld hx hb hX hbl hS (t := t) (k := 4) (nI_add (5 * t) 4) (by omega) hL dL_law_447 ?_
    refine kf_calliR (wr := (xW cI cZ h a qph qgr ((X0_plugIn qph qgr qne qap qle qpc qnw n (xs (5 * t + 1)) (xs (5 * t + 2)) (xs (5 * t + 3)) (xs (5 * t + 4))).2.1) ((X0_plugIn qph qgr qne qap qle qpc qnw n (xs (5 * t + 1)) (xs (5 * t + 2)) (xs (5 * t + 3)) (xs (5 * t + 4))).2.2.1) ((X0_plugIn qph qgr qne qap qle qpc qnw n (xs (5 * t + 1)) (xs (5 * t + 2)) (xs (5 * t + 3)) (xs (5 * t + 4))).2.2.2) qfu qpc qgd qri qnw qtk qsv qwa qgi qlo qtu ++ oW cL o (vp_updL og (0 : Int32).toNatClampNeg ((X0_plugIn qph qgr qne qap qle qpc qnw n (xs (5 * t + 1)) (xs (5 * t + 2)) (xs (5 * t + 3)) (xs (5 * t + 4))).1).toInt64))) (rest := []) (q0 := 0) hC (c_X1_plugIn l dC dI cI cZ h2 a2 rpt rph rgr rca rne rap rle rfu rba rru rti rtk rsv rgi rpa rth n (xs (5 * t + 1)) (xs (5 * t + 2)) (xs (5 * t + 3)) (xs (5 * t + 4)) (Rel.rpt hR) (Rel.n8 hR) (Rel.mI hR)) (cwV 4 hC.2.2.2.2 gL_law_X1_plugIn rfl rfl rfl hd_X1_plugIn ⟨Nat.le_of_ble_eq_true rfl, Nat.le_of_ble_eq_true rfl⟩) (k_sub3 hK) hP hD hS hA rfl rfl rfl hl.1 (Nat.le_of_ble_eq_true rfl) dL_law_448 rfl ⟨by show (22 + t) ≤ 1052; omega, by show (170 + 6 * t) ≤ 8398; omega⟩ (fun H locs hP hD hS => ?_)
    refine lv_istore (lv' := [(6, .int ((X1_plugIn rpt rph rgr rca rne rap rle rti n (xs (5 * t + 1)) (xs (5 * t + 2)) (xs (5 * t + 3)) (xs (5 * t + 4))).1)), (5, .int 0), (0, .ref b), (1, .ref h), (2, .ref h2), (3, .ref o), (4, .int (nI (5 * t)))]) hx hb dL_law_451 hl (by decide) rfl (fun ls hl => ?_)
    refine lv_aload_n hx hb dL_law_453 rfl (lv_at hl 4 rfl) ?_
    refine kf_calliR (wr := (xW cI cZ h a qph qgr ((X0_plugIn qph qgr qne qap qle qpc qnw n (xs (5 * t + 1)) (xs (5 * t + 2)) (xs (5 * t + 3)) (xs (5 * t + 4))).2.1) ((X0_plugIn qph qgr qne qap qle qpc qnw n (xs (5 * t + 1)) (xs (5 * t + 2)) (xs (5 * t + 3)) (xs (5 * t + 4))).2.2.1) ((X0_plugIn qph qgr qne qap qle qpc qnw n (xs (5 * t + 1)) (xs (5 * t + 2)) (xs (5 * t + 3)) (xs (5 * t + 4))).2.2.2) qfu qpc qgd qri qnw qtk qsv qwa qgi qlo qtu ++ oW cL o (vp_updL og (0 : Int32).toNatClampNeg ((X0_plugIn qph qgr qne qap qle qpc qnw n (xs (5 * t + 1)) (xs (5 * t + 2)) (xs (5 * t + 3)) (xs (5 * t + 4))).1).toInt64))) (rest := []) (q0 := 0) hC (c_X1_thrown l dC dI cI cZ h2 a2 rpt rph rgr ((X1_plugIn rpt rph rgr rca rne rap rle rti n (xs (5 * t + 1)) (xs (5 * t + 2)) (xs (5 * t + 3)) (xs (5 * t + 4))).2.1) ((X1_plugIn rpt rph rgr rca rne rap rle rti n (xs (5 * t + 1)) (xs (5 * t + 2)) (xs (5 * t + 3)) (xs (5 * t + 4))).2.2.1) ((X1_plugIn rpt rph rgr rca rne rap rle rti n (xs (5 * t + 1)) (xs (5 * t + 2)) (xs (5 * t + 3)) (xs (5 * t + 4))).2.2.2.1) ((X1_plugIn rpt rph rgr rca rne rap rle rti n (xs (5 * t + 1)) (xs (5 * t + 2)) (xs (5 * t + 3)) (xs (5 * t + 4))).2.2.2.2.1) rfu rba rru rti rtk rsv rgi rpa ((X1_plugIn rpt rph rgr rca rne rap rle rti n (xs (5 * t + 1)) (xs (5 * t + 2)) (xs (5 * t + 3)) (xs (5 * t + 4))).2.2.2.2.2)) (cwV 0 hC.2.2.2.2 gL_law_X1_thrown rfl rfl rfl hd_X1_thrown ⟨Nat.le_of_ble_eq_true rfl, Nat.le_of_ble_eq_true rfl⟩) (k_sub3 hK) hP hD hS hA rfl rfl rfl hl.1 (Nat.le_of_ble_eq_true rfl) dL_law_454 rfl ⟨by show (22 + t) ≤ 1052; omega, by show (170 + 6 * t) ≤ 8398; omega⟩ (fun H locs hP hD hS => ?_)
    refine lv_iload hx hb dL_law_457 (lv_at hl 1 rfl) ?_
    refine lv_icmp_eq (tgt := 464) hx hb dL_law_459 (by decide) (fun _ => ?_) (fun c => absurd e1 c)
    refine lv_iload hx hb dL_law_464 (lv_at hl 1 rfl) ?_
    refine lv_if_ne (tgt := 481) hx hb dL_law_466 (by decide) (fun c => absurd rfl c) (fun _ => ?_)
    refine lv_aload_n hx hb dL_law_469 rfl (lv_at hl 5 rfl) ?_
    refine lv_iconst (v := 0) hx hb dL_law_470 (by decide) ?_
    refine va_lald (f := (vp_updL og (0 : Int32).toNatClampNeg ((X0_plugIn qph qgr qne qap qle qpc qnw n (xs (5 * t + 1)) (xs (5 * t + 2)) (xs (5 * t + 3)) (xs (5 * t + 4))).1).toInt64)) hx hb hK hP 11 2 rfl rfl vpc0_1 dL_law_471 ?_
    refine lv_iload hx hb dL_law_472 (lv_at hl 0 rfl) ?_
    refine lv_i2l hx hb dL_law_474 rfl ?_
    refine W.lcmp hx hb dL_law_475 ?_
    refine lv_if_eq (tgt := 481) hx hb dL_law_476 (by decide) (fun _ => ?_) (fun c => absurd (kl_cmp e2) c)
    refine lv_goto (tgt := 1215) hx hb dL_law_481 (by decide) ?_
    refine lv_iinc (v := (nI (5 * (t + 1)))) (lv' := [(4, .int (nI (5 * (t + 1)))), (6, .int ((X1_plugIn rpt rph rgr rca rne rap rle rti n (xs (5 * t + 1)) (xs (5 * t + 2)) (xs (5 * t + 3)) (xs (5 * t + 4))).1)), (5, .int 0), (0, .ref b), (1, .ref h), (2, .ref h2), (3, .ref o)]) hx hb dL_law_1215 hl (k := 6) rfl (nI_add (5 * t) 5) (by decide) rfl (fun ls hl => ?_)
    refine lv_goto (tgt := 23) hx hb dL_law_1218 (by decide) ?_
    refine W.widen (k := 22 + (t + 1)) (n := 170 + 6 * (t + 1)) (by omega) (by omega) ?_
    exact next _ _ _ _ _ _ _ _ _ _ _ _ _ _ _ _ _ _ _ _ _ _ _ _ _ _ _ _ _ _ _ _ _ _ hR1 H locs ls hP hD hS (lv_sub hl [3, 4, 5, 6, 0] rfl)
  · refine kl_bad (rest := []) (As := [.ref h, .int (xs (5 * t + 1)), .int (xs (5 * t + 2)), .int (xs (5 * t + 3)), .int (xs (5 * t + 4)), .ref o]) hC (cx_L_plugIn l hl0 dC dI cI cZ cL h a qph qgr qne qap qle qfu qpc qgd qri qnw qtk qsv qwa qgi qlo qtu n (xs (5 * t + 1)) (xs (5 * t + 2)) (xs (5 * t + 3)) (xs (5 * t + 4)) o og (Rel.qpc hR) (Rel.n8 hR) hT) (vx_cwSW 6 hC.2.2.2.2 gL_law_L_plugIn rfl rfl rfl hdL_plugIn ⟨Nat.le_of_ble_eq_true rfl, Nat.le_of_ble_eq_true rfl⟩) hK hNs hZ hP hD hS hA rfl hl.1 (Nat.le_of_ble_eq_true rfl) dL_law_418 rfl ⟨by show 22 + t + 1 ≤ 1052; omega, by show 170 + 6 * t + 6 ≤ 8398; omega⟩ (fun H locs hP hD hS => ?_)
    obtain ⟨e1, hR1⟩ := R_plugIn_bad qwa qgi qlo qtu rgi rpa rth (xs (5 * t + 1)) (xs (5 * t + 2)) (xs (5 * t + 3)) (xs (5 * t + 4)) ht hR hT
    refine lv_istore (lv' := [(5, .int (X0_plugIn_T qne qpc n (xs (5 * t + 1)) (xs (5 * t + 2)) (xs (5 * t + 3)) (xs (5 * t + 4)))), (0, .ref b), (1, .ref h), (2, .ref h2), (3, .ref o), (4, .int (nI (5 * t)))]) hx hb dL_law_421 hl (by decide) rfl (fun ls hl => ?_)
    refine lv_aload_n hx hb dL_law_423 rfl (lv_at hl 3 rfl) ?_
    refine lv_aload_n hx hb dL_law_424 rfl (lv_at hl 1 rfl) ?_
    refine lv_iload hx hb dL_law_425 (lv_at hl 5 rfl) ?_
    refine lv_iconst (v := 1) hx hb dL_law_427 (by decide) ?_
    refine lv_iadd hx hb dL_law_428 ?_
    refine kl_sld hx hb hX hbl hS (t := t) (k := 1) (nI_add (5 * t) 1) (by omega) hL dL_law_429 ?_
    refine lv_aload_n hx hb dL_law_430 rfl (lv_at hl 1 rfl) ?_
    refine lv_iload hx hb dL_law_431 (lv_at hl 5 rfl) ?_
    refine lv_iconst (v := 2) hx hb dL_law_433 (by decide) ?_
    refine lv_iadd hx hb dL_law_434 ?_
    refine kl_sld hx hb hX hbl hS (t := t) (k := 2) (nI_add (5 * t) 2) (by omega) hL dL_law_435 ?_
    refine lv_aload_n hx hb dL_law_436 rfl (lv_at hl 1 rfl) ?_
    refine lv_iload hx hb dL_law_437 (lv_at hl 5 rfl) ?_
    refine lv_iconst (v := 3) hx hb dL_law_439 (by decide) ?_
    refine lv_iadd hx hb dL_law_440 ?_
    refine kl_sld hx hb hX hbl hS (t := t) (k := 3) (nI_add (5 * t) 3) (by omega) hL dL_law_441 ?_
    refine lv_aload_n hx hb dL_law_442 rfl (lv_at hl 1 rfl) ?_
    refine lv_iload hx hb dL_law_443 (lv_at hl 5 rfl) ?_
    refine lv_iconst (v := 4) hx hb dL_law_445 (by decide) ?_
    refine lv_iadd hx hb dL_law_446 ?_
    refine kl_sld hx hb hX hbl hS (t := t) (k := 4) (nI_add (5 * t) 4) (by omega) hL dL_law_447 ?_
    refine kf_calliR (wr := (xW cI cZ h a qph qgr qne qap qle qfu qpc qgd qri qnw qtk qsv qwa qgi qlo qtu ++ oW cL o og)) (rest := []) (q0 := 0) hC (c_X1_plugIn l dC dI cI cZ h2 a2 rpt rph rgr rca rne rap rle rfu rba rru rti rtk rsv rgi rpa rth n (xs (5 * t + 1)) (xs (5 * t + 2)) (xs (5 * t + 3)) (xs (5 * t + 4)) (Rel.rpt hR) (Rel.n8 hR) (Rel.mI hR)) (cwV 4 hC.2.2.2.2 gL_law_X1_plugIn rfl rfl rfl hd_X1_plugIn ⟨Nat.le_of_ble_eq_true rfl, Nat.le_of_ble_eq_true rfl⟩) (k_sub3 hK) hP hD hS hA rfl rfl rfl hl.1 (Nat.le_of_ble_eq_true rfl) dL_law_448 rfl ⟨by show (22 + t + 1) ≤ 1052; omega, by show (170 + 6 * t + 6) ≤ 8398; omega⟩ (fun H locs hP hD hS => ?_)
    refine lv_istore (lv' := [(6, .int ((X1_plugIn rpt rph rgr rca rne rap rle rti n (xs (5 * t + 1)) (xs (5 * t + 2)) (xs (5 * t + 3)) (xs (5 * t + 4))).1)), (5, .int (X0_plugIn_T qne qpc n (xs (5 * t + 1)) (xs (5 * t + 2)) (xs (5 * t + 3)) (xs (5 * t + 4)))), (0, .ref b), (1, .ref h), (2, .ref h2), (3, .ref o), (4, .int (nI (5 * t)))]) hx hb dL_law_451 hl (by decide) rfl (fun ls hl => ?_)
    refine lv_aload_n hx hb dL_law_453 rfl (lv_at hl 4 rfl) ?_
    refine kf_calliR (wr := (xW cI cZ h a qph qgr qne qap qle qfu qpc qgd qri qnw qtk qsv qwa qgi qlo qtu ++ oW cL o og)) (rest := []) (q0 := 0) hC (c_X1_thrown l dC dI cI cZ h2 a2 rpt rph rgr ((X1_plugIn rpt rph rgr rca rne rap rle rti n (xs (5 * t + 1)) (xs (5 * t + 2)) (xs (5 * t + 3)) (xs (5 * t + 4))).2.1) ((X1_plugIn rpt rph rgr rca rne rap rle rti n (xs (5 * t + 1)) (xs (5 * t + 2)) (xs (5 * t + 3)) (xs (5 * t + 4))).2.2.1) ((X1_plugIn rpt rph rgr rca rne rap rle rti n (xs (5 * t + 1)) (xs (5 * t + 2)) (xs (5 * t + 3)) (xs (5 * t + 4))).2.2.2.1) ((X1_plugIn rpt rph rgr rca rne rap rle rti n (xs (5 * t + 1)) (xs (5 * t + 2)) (xs (5 * t + 3)) (xs (5 * t + 4))).2.2.2.2.1) rfu rba rru rti rtk rsv rgi rpa ((X1_plugIn rpt rph rgr rca rne rap rle rti n (xs (5 * t + 1)) (xs (5 * t + 2)) (xs (5 * t + 3)) (xs (5 * t + 4))).2.2.2.2.2)) (cwV 0 hC.2.2.2.2 gL_law_X1_thrown rfl rfl rfl hd_X1_thrown ⟨Nat.le_of_ble_eq_true rfl, Nat.le_of_ble_eq_true rfl⟩) (k_sub3 hK) hP hD hS hA rfl rfl rfl hl.1 (Nat.le_of_ble_eq_true rfl) dL_law_454 rfl ⟨by show (22 + t + 1) ≤ 1052; omega, by show (170 + 6 * t + 6) ≤ 8398; omega⟩ (fun H locs hP hD hS => ?_)
    refine lv_iload hx hb dL_law_457 (lv_at hl 1 rfl) ?_
    refine lv_icmp_eq (tgt := 464) hx hb dL_law_459 (by decide) (fun _ => ?_) (fun c => absurd e1 c)
    refine lv_iload hx hb dL_law_464 (lv_at hl 1 rfl) ?_
    refine lv_if_ne (tgt := 481) hx hb dL_law_466 (by decide) (fun _ => ?_) (fun c => absurd c hT)
    refine lv_goto (tgt := 1215) hx hb dL_law_481 (by decide) ?_
    refine lv_iinc (v := (nI (5 * (t + 1)))) (lv' := [(4, .int (nI (5 * (t + 1)))), (6, .int ((X1_plugIn rpt rph rgr rca rne rap rle rti n (xs (5 * t + 1)) (xs (5 * t + 2)) (xs (5 * t + 3)) (xs (5 * t + 4))).1)), (5, .int (X0_plugIn_T qne qpc n (xs (5 * t + 1)) (xs (5 * t + 2)) (xs (5 * t + 3)) (xs (5 * t + 4)))), (0, .ref b), (1, .ref h), (2, .ref h2), (3, .ref o)]) hx hb dL_law_1215 hl (k := 6) rfl (nI_add (5 * t) 5) (by decide) rfl (fun ls hl => ?_)
    refine lv_goto (tgt := 23) hx hb dL_law_1218 (by decide) ?_
    refine W.widen (k := 22 + (t + 1)) (n := 170 + 6 * (t + 1)) (by omega) (by omega) ?_
    exact next _ _ _ _ _ _ _ _ _ _ _ _ _ _ _ _ _ _ _ _ _ _ _ _ _ _ _ _ _ _ _ _ _ _ hR1 H locs ls hP hD hS (lv_sub hl [3, 4, 5, 6, 0] rfl)
set_option maxHeartbeats 4000000 in
set_option maxRecDepth 100000 in
theorem case_takeOut {p : Program} {l : Launch} {e : Env} {s : State} {m : MethodId} {args : Array Value} {below : List Frame} {meth : Method} {c : Code} {Q : State → Prop} {dC : Nat → ClassId} {dI : Nat → Nat → Nat} {cI cZ cL : ClassId} {b L : Nat} {xs : Nat → Int32} {h h2 o : Nat} {a a2 : Nat → Nat} {t n : Nat} {qph : AR} {qgr : AR} {qne : AR} {qap : AR} {qle : AR} {qfu : AR} {qpc : Int32} {qgd : Int32} {qri : Int32} {qnw : Int32} {qtk : Int32} {qsv : Int32} {qwa : AR} {qgi : AR} {qlo : AR} {qtu : AR} {rpt : Int32} {rph : AR} {rgr : AR} {rca : AR} {rne : AR} {rap : AR} {rle : AR} {rfu : AR} {rba : Int32} {rru : Int32} {rti : Int32} {rtk : Int32} {rsv : Int32} {rgi : AR} {rpa : AR} {rth : Int32} {og : Nat → Int64} (hC : CallFix p m c cL_law 7 s args wsL_law RL) (hl0 : l.stackTraces = false) (hX : va_X b L xs s s.heap) (hbl : b < s.heap.size) (hL : L ≤ 2560) (hK : va_K (dC, dI) vwCl (kT3 cI cZ cL) s) (hNs : kN s) (hZ : kZ (fun q : Nat => s.heap.size ≤ q) s s.heap) (ht : t < 512) (htL : 5 * t + 4 < L) (hR : Rel t n qph qgr qne qap qle qfu qpc qgd qri qnw qtk qsv rpt rph rgr rca rne rap rle rfu rba rru rti rtk rsv) (next : (∀ (n : Nat) (qph : AR) (qgr : AR) (qne : AR) (qap : AR) (qle : AR) (qfu : AR) (qpc : Int32) (qgd : Int32) (qri : Int32) (qnw : Int32) (qtk : Int32) (qsv : Int32) (qwa : AR) (qgi : AR) (qlo : AR) (qtu : AR) (rpt : Int32) (rph : AR) (rgr : AR) (rca : AR) (rne : AR) (rap : AR) (rle : AR) (rfu : AR) (rba : Int32) (rru : Int32) (rti : Int32) (rtk : Int32) (rsv : Int32) (rgi : AR) (rpa : AR) (rth : Int32) (og : Nat → Int64), Rel (t + 1) n qph qgr qne qap qle qfu qpc qgd qri qnw qtk qsv rpt rph rgr rca rne rap rle rfu rba rru rti rtk rsv → ∀ (H : Heap) (locs : List Loc) (ls : Array Slot), va_P (dC, dI) vwCl ((xW cI cZ h a qph qgr qne qap qle qfu qpc qgd qri qnw qtk qsv qwa qgi qlo qtu ++ oW cL o og) ++ mW cI cZ h2 a2 rpt rph rgr rca rne rap rle rfu rba rru rti rtk rsv rgi rpa rth) H → va_D (fun q : Nat => s.heap.size ≤ q) ((xW cI cZ h a qph qgr qne qap qle qfu qpc qgd qri qnw qtk qsv qwa qgi qlo qtu ++ oW cL o og) ++ mW cI cZ h2 a2 rpt rph rgr rca rne rap rle rfu rba rru rti rtk rsv rgi rpa rth) → va_S (fun q : Nat => s.heap.size ≤ q) s.heap H locs → lv_has ls 7 [(0, .ref b), (1, .ref h), (2, .ref h2), (3, .ref o), (4, .int (nI (5 * (t + 1))))] → W p l e room_1 s m args below meth c H locs (22 + (t + 1)) (170 + 6 * (t + 1)) Q (F0 m 23 ls []))) {H : Heap} {locs : List Loc} {ls : Array Slot} (hP : va_P (dC, dI) vwCl ((xW cI cZ h a qph qgr qne qap qle qfu qpc qgd qri qnw qtk qsv qwa qgi qlo qtu ++ oW cL o og) ++ mW cI cZ h2 a2 rpt rph rgr rca rne rap rle rfu rba rru rti rtk rsv rgi rpa rth) H) (hD : va_D (fun q : Nat => s.heap.size ≤ q) ((xW cI cZ h a qph qgr qne qap qle qfu qpc qgd qri qnw qtk qsv qwa qgi qlo qtu ++ oW cL o og) ++ mW cI cZ h2 a2 rpt rph rgr rca rne rap rle rfu rba rru rti rtk rsv rgi rpa rth)) (hS : va_S (fun q : Nat => s.heap.size ≤ q) s.heap H locs) (hl : lv_has ls 7 [(0, .ref b), (1, .ref h), (2, .ref h2), (3, .ref o), (4, .int (nI (5 * t)))]) : W p l e room_1 s m args below meth c H locs (22 + t) (170 + 6 * t) Q (F0 m 484 ls []) := by
  obtain ⟨hx, hb, hml, hown, hts⟩ := id hC
  have hA : ∀ q : Nat, s.heap.size ≤ q → (fun q : Nat => s.heap.size ≤ q) q := fun _ h => h
  refine lv_aload_n hx hb dL_law_484 rfl (lv_at hl 1 rfl) ?_
  refine lv_aload_n hx hb dL_law_485 rfl (lv_at hl 0 rfl) ?_
  refine lv_iload hx hb dL_law_486 (lv_at hl 4 rfl) ?_
  refine lv_iconst (v := 1) hx hb dL_law_488 (by decide) ?_
  refine lv_iadd hx hb dL_law_489 ?_
  refine kl_sld hx hb hX hbl hS (t := t) (k := 1) (nI_add (5 * t) 1) (by omega) hL dL_law_490 ?_
  refine lv_aload_n hx hb dL_law_491 rfl (lv_at hl 3 rfl) ?_
  by_cases hT : (X0_takeOut_T qne qpc n (xs (5 * t + 1))) = 0
  · refine kl_ok (rest := []) (As := [.ref h, .int (xs (5 * t + 1)), .ref o]) hC (c_L_takeOut l dC dI cI cZ cL h a qph qgr qne qap qle qfu qpc qgd qri qnw qtk qsv qwa qgi qlo qtu n (xs (5 * t + 1)) o og (Rel.qpc hR) (Rel.n8 hR) hT) (vx_cwSW 3 hC.2.2.2.2 gL_law_L_takeOut rfl rfl rfl hdL_takeOut ⟨Nat.le_of_ble_eq_true rfl, Nat.le_of_ble_eq_true rfl⟩) hK hP hD hS hA rfl hl.1 (Nat.le_of_ble_eq_true rfl) dL_law_492 rfl ⟨by show 22 + t ≤ 1052; omega, by show 170 + 6 * t ≤ 8398; omega⟩ (fun H locs hP hD hS => ?_)
    obtain ⟨e1, e2, hR1⟩ := R_takeOut_ok qwa qgi qlo qtu rgi rpa rth (xs (5 * t + 1)) ht hR hT
    refine lv_istore (lv' := [(5, .int 0), (0, .ref b), (1, .ref h), (2, .ref h2), (3, .ref o), (4, .int (nI (5 * t)))]) hx hb dL_law_495 hl (by decide) rfl (fun ls hl => ?_)
    refine lv_aload_n hx hb dL_law_497 rfl (lv_at hl 3 rfl) ?_
    refine lv_aload_n hx hb dL_law_498 rfl (lv_at hl 1 rfl) ?_
    refine lv_iload hx hb dL_law_499 (lv_at hl 5 rfl) ?_
    refine lv_iconst (v := 1) hx hb dL_law_501 (by decide) ?_
    refine lv_iadd hx hb dL_law_502 ?_
    refine kl_sld hx hb hX hbl hS (t := t) (k := 1) (nI_add (5 * t) 1) (by omega) hL dL_law_503 ?_
    refine kf_calliR (wr := (xW cI cZ h a qph qgr ((X0_takeOut qne qpc qsv n (xs (5 * t + 1))).2.1) qap qle qfu qpc qgd qri qnw qtk ((X0_takeOut qne qpc qsv n (xs (5 * t + 1))).2.2) qwa qgi qlo qtu ++ oW cL o (vp_updL og (0 : Int32).toNatClampNeg ((X0_takeOut qne qpc qsv n (xs (5 * t + 1))).1).toInt64))) (rest := []) (q0 := 0) hC (c_X1_takeOut l dC dI cI cZ h2 a2 rpt rph rgr rca rne rap rle rfu rba rru rti rtk rsv rgi rpa rth n (xs (5 * t + 1)) (Rel.rpt hR) (Rel.n8 hR)) (cwV 1 hC.2.2.2.2 gL_law_X1_takeOut rfl rfl rfl hd_X1_takeOut ⟨Nat.le_of_ble_eq_true rfl, Nat.le_of_ble_eq_true rfl⟩) (k_sub3 hK) hP hD hS hA rfl rfl rfl hl.1 (Nat.le_of_ble_eq_true rfl) dL_law_504 rfl ⟨by show (22 + t) ≤ 1052; omega, by show (170 + 6 * t) ≤ 8398; omega⟩ (fun H locs hP hD hS => ?_)
    refine lv_istore (lv' := [(6, .int ((X1_takeOut rpt rca rne rsv n (xs (5 * t + 1))).1)), (5, .int 0), (0, .ref b), (1, .ref h), (2, .ref h2), (3, .ref o), (4, .int (nI (5 * t)))]) hx hb dL_law_507 hl (by decide) rfl (fun ls hl => ?_)
    refine lv_aload_n hx hb dL_law_509 rfl (lv_at hl 4 rfl) ?_
    refine kf_calliR (wr := (xW cI cZ h a qph qgr ((X0_takeOut qne qpc qsv n (xs (5 * t + 1))).2.1) qap qle qfu qpc qgd qri qnw qtk ((X0_takeOut qne qpc qsv n (xs (5 * t + 1))).2.2) qwa qgi qlo qtu ++ oW cL o (vp_updL og (0 : Int32).toNatClampNeg ((X0_takeOut qne qpc qsv n (xs (5 * t + 1))).1).toInt64))) (rest := []) (q0 := 0) hC (c_X1_thrown l dC dI cI cZ h2 a2 rpt rph rgr ((X1_takeOut rpt rca rne rsv n (xs (5 * t + 1))).2.1) rne rap rle rfu rba rru rti rtk ((X1_takeOut rpt rca rne rsv n (xs (5 * t + 1))).2.2.1) rgi rpa ((X1_takeOut rpt rca rne rsv n (xs (5 * t + 1))).2.2.2)) (cwV 0 hC.2.2.2.2 gL_law_X1_thrown rfl rfl rfl hd_X1_thrown ⟨Nat.le_of_ble_eq_true rfl, Nat.le_of_ble_eq_true rfl⟩) (k_sub3 hK) hP hD hS hA rfl rfl rfl hl.1 (Nat.le_of_ble_eq_true rfl) dL_law_510 rfl ⟨by show (22 + t) ≤ 1052; omega, by show (170 + 6 * t) ≤ 8398; omega⟩ (fun H locs hP hD hS => ?_)
    refine lv_iload hx hb dL_law_513 (lv_at hl 1 rfl) ?_
    refine lv_icmp_eq (tgt := 520) hx hb dL_law_515 (by decide) (fun _ => ?_) (fun c => absurd e1 c)
    refine lv_iload hx hb dL_law_520 (lv_at hl 1 rfl) ?_
    refine lv_if_ne (tgt := 537) hx hb dL_law_522 (by decide) (fun c => absurd rfl c) (fun _ => ?_)
    refine lv_aload_n hx hb dL_law_525 rfl (lv_at hl 5 rfl) ?_
    refine lv_iconst (v := 0) hx hb dL_law_526 (by decide) ?_
    refine va_lald (f := (vp_updL og (0 : Int32).toNatClampNeg ((X0_takeOut qne qpc qsv n (xs (5 * t + 1))).1).toInt64)) hx hb hK hP 11 2 rfl rfl vpc0_1 dL_law_527 ?_
    refine lv_iload hx hb dL_law_528 (lv_at hl 0 rfl) ?_
    refine lv_i2l hx hb dL_law_530 rfl ?_
    refine W.lcmp hx hb dL_law_531 ?_
    refine lv_if_eq (tgt := 537) hx hb dL_law_532 (by decide) (fun _ => ?_) (fun c => absurd (kl_cmp e2) c)
    refine lv_goto (tgt := 1215) hx hb dL_law_537 (by decide) ?_
    refine lv_iinc (v := (nI (5 * (t + 1)))) (lv' := [(4, .int (nI (5 * (t + 1)))), (6, .int ((X1_takeOut rpt rca rne rsv n (xs (5 * t + 1))).1)), (5, .int 0), (0, .ref b), (1, .ref h), (2, .ref h2), (3, .ref o)]) hx hb dL_law_1215 hl (k := 6) rfl (nI_add (5 * t) 5) (by decide) rfl (fun ls hl => ?_)
    refine lv_goto (tgt := 23) hx hb dL_law_1218 (by decide) ?_
    refine W.widen (k := 22 + (t + 1)) (n := 170 + 6 * (t + 1)) (by omega) (by omega) ?_
    exact next _ _ _ _ _ _ _ _ _ _ _ _ _ _ _ _ _ _ _ _ _ _ _ _ _ _ _ _ _ _ _ _ _ _ hR1 H locs ls hP hD hS (lv_sub hl [3, 4, 5, 6, 0] rfl)
  · refine kl_bad (rest := []) (As := [.ref h, .int (xs (5 * t + 1)), .ref o]) hC (cx_L_takeOut l hl0 dC dI cI cZ cL h a qph qgr qne qap qle qfu qpc qgd qri qnw qtk qsv qwa qgi qlo qtu n (xs (5 * t + 1)) o og (Rel.qpc hR) (Rel.n8 hR) hT) (vx_cwSW 3 hC.2.2.2.2 gL_law_L_takeOut rfl rfl rfl hdL_takeOut ⟨Nat.le_of_ble_eq_true rfl, Nat.le_of_ble_eq_true rfl⟩) hK hNs hZ hP hD hS hA rfl hl.1 (Nat.le_of_ble_eq_true rfl) dL_law_492 rfl ⟨by show 22 + t + 1 ≤ 1052; omega, by show 170 + 6 * t + 6 ≤ 8398; omega⟩ (fun H locs hP hD hS => ?_)
    obtain ⟨e1, hR1⟩ := R_takeOut_bad qwa qgi qlo qtu rgi rpa rth (xs (5 * t + 1)) ht hR hT
    refine lv_istore (lv' := [(5, .int (X0_takeOut_T qne qpc n (xs (5 * t + 1)))), (0, .ref b), (1, .ref h), (2, .ref h2), (3, .ref o), (4, .int (nI (5 * t)))]) hx hb dL_law_495 hl (by decide) rfl (fun ls hl => ?_)
    refine lv_aload_n hx hb dL_law_497 rfl (lv_at hl 3 rfl) ?_
    refine lv_aload_n hx hb dL_law_498 rfl (lv_at hl 1 rfl) ?_
    refine lv_iload hx hb dL_law_499 (lv_at hl 5 rfl) ?_
    refine lv_iconst (v := 1) hx hb dL_law_501 (by decide) ?_
    refine lv_iadd hx hb dL_law_502 ?_
    refine kl_sld hx hb hX hbl hS (t := t) (k := 1) (nI_add (5 * t) 1) (by omega) hL dL_law_503 ?_
    refine kf_calliR (wr := (xW cI cZ h a qph qgr qne qap qle qfu qpc qgd qri qnw qtk qsv qwa qgi qlo qtu ++ oW cL o og)) (rest := []) (q0 := 0) hC (c_X1_takeOut l dC dI cI cZ h2 a2 rpt rph rgr rca rne rap rle rfu rba rru rti rtk rsv rgi rpa rth n (xs (5 * t + 1)) (Rel.rpt hR) (Rel.n8 hR)) (cwV 1 hC.2.2.2.2 gL_law_X1_takeOut rfl rfl rfl hd_X1_takeOut ⟨Nat.le_of_ble_eq_true rfl, Nat.le_of_ble_eq_true rfl⟩) (k_sub3 hK) hP hD hS hA rfl rfl rfl hl.1 (Nat.le_of_ble_eq_true rfl) dL_law_504 rfl ⟨by show (22 + t + 1) ≤ 1052; omega, by show (170 + 6 * t + 6) ≤ 8398; omega⟩ (fun H locs hP hD hS => ?_)
    refine lv_istore (lv' := [(6, .int ((X1_takeOut rpt rca rne rsv n (xs (5 * t + 1))).1)), (5, .int (X0_takeOut_T qne qpc n (xs (5 * t + 1)))), (0, .ref b), (1, .ref h), (2, .ref h2), (3, .ref o), (4, .int (nI (5 * t)))]) hx hb dL_law_507 hl (by decide) rfl (fun ls hl => ?_)
    refine lv_aload_n hx hb dL_law_509 rfl (lv_at hl 4 rfl) ?_
    refine kf_calliR (wr := (xW cI cZ h a qph qgr qne qap qle qfu qpc qgd qri qnw qtk qsv qwa qgi qlo qtu ++ oW cL o og)) (rest := []) (q0 := 0) hC (c_X1_thrown l dC dI cI cZ h2 a2 rpt rph rgr ((X1_takeOut rpt rca rne rsv n (xs (5 * t + 1))).2.1) rne rap rle rfu rba rru rti rtk ((X1_takeOut rpt rca rne rsv n (xs (5 * t + 1))).2.2.1) rgi rpa ((X1_takeOut rpt rca rne rsv n (xs (5 * t + 1))).2.2.2)) (cwV 0 hC.2.2.2.2 gL_law_X1_thrown rfl rfl rfl hd_X1_thrown ⟨Nat.le_of_ble_eq_true rfl, Nat.le_of_ble_eq_true rfl⟩) (k_sub3 hK) hP hD hS hA rfl rfl rfl hl.1 (Nat.le_of_ble_eq_true rfl) dL_law_510 rfl ⟨by show (22 + t + 1) ≤ 1052; omega, by show (170 + 6 * t + 6) ≤ 8398; omega⟩ (fun H locs hP hD hS => ?_)
    refine lv_iload hx hb dL_law_513 (lv_at hl 1 rfl) ?_
    refine lv_icmp_eq (tgt := 520) hx hb dL_law_515 (by decide) (fun _ => ?_) (fun c => absurd e1 c)
    refine lv_iload hx hb dL_law_520 (lv_at hl 1 rfl) ?_
    refine lv_if_ne (tgt := 537) hx hb dL_law_522 (by decide) (fun _ => ?_) (fun c => absurd c hT)
    refine lv_goto (tgt := 1215) hx hb dL_law_537 (by decide) ?_
    refine lv_iinc (v := (nI (5 * (t + 1)))) (lv' := [(4, .int (nI (5 * (t + 1)))), (6, .int ((X1_takeOut rpt rca rne rsv n (xs (5 * t + 1))).1)), (5, .int (X0_takeOut_T qne qpc n (xs (5 * t + 1)))), (0, .ref b), (1, .ref h), (2, .ref h2), (3, .ref o)]) hx hb dL_law_1215 hl (k := 6) rfl (nI_add (5 * t) 5) (by decide) rfl (fun ls hl => ?_)
    refine lv_goto (tgt := 23) hx hb dL_law_1218 (by decide) ?_
    refine W.widen (k := 22 + (t + 1)) (n := 170 + 6 * (t + 1)) (by omega) (by omega) ?_
    exact next _ _ _ _ _ _ _ _ _ _ _ _ _ _ _ _ _ _ _ _ _ _ _ _ _ _ _ _ _ _ _ _ _ _ hR1 H locs ls hP hD hS (lv_sub hl [3, 4, 5, 6, 0] rfl)
set_option maxHeartbeats 4000000 in
set_option maxRecDepth 100000 in
theorem case_appetite {p : Program} {l : Launch} {e : Env} {s : State} {m : MethodId} {args : Array Value} {below : List Frame} {meth : Method} {c : Code} {Q : State → Prop} {dC : Nat → ClassId} {dI : Nat → Nat → Nat} {cI cZ cL : ClassId} {b L : Nat} {xs : Nat → Int32} {h h2 o : Nat} {a a2 : Nat → Nat} {t n : Nat} {qph : AR} {qgr : AR} {qne : AR} {qap : AR} {qle : AR} {qfu : AR} {qpc : Int32} {qgd : Int32} {qri : Int32} {qnw : Int32} {qtk : Int32} {qsv : Int32} {qwa : AR} {qgi : AR} {qlo : AR} {qtu : AR} {rpt : Int32} {rph : AR} {rgr : AR} {rca : AR} {rne : AR} {rap : AR} {rle : AR} {rfu : AR} {rba : Int32} {rru : Int32} {rti : Int32} {rtk : Int32} {rsv : Int32} {rgi : AR} {rpa : AR} {rth : Int32} {og : Nat → Int64} (hC : CallFix p m c cL_law 7 s args wsL_law RL) (hl0 : l.stackTraces = false) (hX : va_X b L xs s s.heap) (hbl : b < s.heap.size) (hL : L ≤ 2560) (hK : va_K (dC, dI) vwCl (kT3 cI cZ cL) s) (hNs : kN s) (hZ : kZ (fun q : Nat => s.heap.size ≤ q) s s.heap) (ht : t < 512) (htL : 5 * t + 4 < L) (hR : Rel t n qph qgr qne qap qle qfu qpc qgd qri qnw qtk qsv rpt rph rgr rca rne rap rle rfu rba rru rti rtk rsv) (next : (∀ (n : Nat) (qph : AR) (qgr : AR) (qne : AR) (qap : AR) (qle : AR) (qfu : AR) (qpc : Int32) (qgd : Int32) (qri : Int32) (qnw : Int32) (qtk : Int32) (qsv : Int32) (qwa : AR) (qgi : AR) (qlo : AR) (qtu : AR) (rpt : Int32) (rph : AR) (rgr : AR) (rca : AR) (rne : AR) (rap : AR) (rle : AR) (rfu : AR) (rba : Int32) (rru : Int32) (rti : Int32) (rtk : Int32) (rsv : Int32) (rgi : AR) (rpa : AR) (rth : Int32) (og : Nat → Int64), Rel (t + 1) n qph qgr qne qap qle qfu qpc qgd qri qnw qtk qsv rpt rph rgr rca rne rap rle rfu rba rru rti rtk rsv → ∀ (H : Heap) (locs : List Loc) (ls : Array Slot), va_P (dC, dI) vwCl ((xW cI cZ h a qph qgr qne qap qle qfu qpc qgd qri qnw qtk qsv qwa qgi qlo qtu ++ oW cL o og) ++ mW cI cZ h2 a2 rpt rph rgr rca rne rap rle rfu rba rru rti rtk rsv rgi rpa rth) H → va_D (fun q : Nat => s.heap.size ≤ q) ((xW cI cZ h a qph qgr qne qap qle qfu qpc qgd qri qnw qtk qsv qwa qgi qlo qtu ++ oW cL o og) ++ mW cI cZ h2 a2 rpt rph rgr rca rne rap rle rfu rba rru rti rtk rsv rgi rpa rth) → va_S (fun q : Nat => s.heap.size ≤ q) s.heap H locs → lv_has ls 7 [(0, .ref b), (1, .ref h), (2, .ref h2), (3, .ref o), (4, .int (nI (5 * (t + 1))))] → W p l e room_1 s m args below meth c H locs (22 + (t + 1)) (170 + 6 * (t + 1)) Q (F0 m 23 ls []))) {H : Heap} {locs : List Loc} {ls : Array Slot} (hP : va_P (dC, dI) vwCl ((xW cI cZ h a qph qgr qne qap qle qfu qpc qgd qri qnw qtk qsv qwa qgi qlo qtu ++ oW cL o og) ++ mW cI cZ h2 a2 rpt rph rgr rca rne rap rle rfu rba rru rti rtk rsv rgi rpa rth) H) (hD : va_D (fun q : Nat => s.heap.size ≤ q) ((xW cI cZ h a qph qgr qne qap qle qfu qpc qgd qri qnw qtk qsv qwa qgi qlo qtu ++ oW cL o og) ++ mW cI cZ h2 a2 rpt rph rgr rca rne rap rle rfu rba rru rti rtk rsv rgi rpa rth)) (hS : va_S (fun q : Nat => s.heap.size ≤ q) s.heap H locs) (hl : lv_has ls 7 [(0, .ref b), (1, .ref h), (2, .ref h2), (3, .ref o), (4, .int (nI (5 * t)))]) : W p l e room_1 s m args below meth c H locs (22 + t) (170 + 6 * t) Q (F0 m 540 ls []) := by
  obtain ⟨hx, hb, hml, hown, hts⟩ := id hC
  have hA : ∀ q : Nat, s.heap.size ≤ q → (fun q : Nat => s.heap.size ≤ q) q := fun _ h => h
  refine lv_aload_n hx hb dL_law_540 rfl (lv_at hl 1 rfl) ?_
  refine lv_aload_n hx hb dL_law_541 rfl (lv_at hl 0 rfl) ?_
  refine lv_iload hx hb dL_law_542 (lv_at hl 4 rfl) ?_
  refine lv_iconst (v := 1) hx hb dL_law_544 (by decide) ?_
  refine lv_iadd hx hb dL_law_545 ?_
  refine kl_sld hx hb hX hbl hS (t := t) (k := 1) (nI_add (5 * t) 1) (by omega) hL dL_law_546 ?_
  refine lv_aload_n hx hb dL_law_547 rfl (lv_at hl 0 rfl) ?_
  refine lv_iload hx hb dL_law_548 (lv_at hl 4 rfl) ?_
  refine lv_iconst (v := 2) hx hb dL_law_550 (by decide) ?_
  refine lv_iadd hx hb dL_law_551 ?_
  refine kl_sld hx hb hX hbl hS (t := t) (k := 2) (nI_add (5 * t) 2) (by omega) hL dL_law_552 ?_
  refine lv_aload_n hx hb dL_law_553 rfl (lv_at hl 3 rfl) ?_
  by_cases hT : (X0_appetite_T qne qpc n (xs (5 * t + 1)) (xs (5 * t + 2))) = 0
  · refine kl_ok (rest := []) (As := [.ref h, .int (xs (5 * t + 1)), .int (xs (5 * t + 2)), .ref o]) hC (c_L_appetite l dC dI cI cZ cL h a qph qgr qne qap qle qfu qpc qgd qri qnw qtk qsv qwa qgi qlo qtu n (xs (5 * t + 1)) (xs (5 * t + 2)) o og (Rel.qpc hR) (Rel.n8 hR) hT) (vx_cwSW 4 hC.2.2.2.2 gL_law_L_appetite rfl rfl rfl hdL_appetite ⟨Nat.le_of_ble_eq_true rfl, Nat.le_of_ble_eq_true rfl⟩) hK hP hD hS hA rfl hl.1 (Nat.le_of_ble_eq_true rfl) dL_law_554 rfl ⟨by show 22 + t ≤ 1052; omega, by show 170 + 6 * t ≤ 8398; omega⟩ (fun H locs hP hD hS => ?_)
    obtain ⟨e1, e2, hR1⟩ := R_appetite_ok qwa qgi qlo qtu rgi rpa rth (xs (5 * t + 1)) (xs (5 * t + 2)) ht hR hT
    refine lv_istore (lv' := [(5, .int 0), (0, .ref b), (1, .ref h), (2, .ref h2), (3, .ref o), (4, .int (nI (5 * t)))]) hx hb dL_law_557 hl (by decide) rfl (fun ls hl => ?_)
    refine lv_aload_n hx hb dL_law_559 rfl (lv_at hl 3 rfl) ?_
    refine lv_aload_n hx hb dL_law_560 rfl (lv_at hl 1 rfl) ?_
    refine lv_iload hx hb dL_law_561 (lv_at hl 5 rfl) ?_
    refine lv_iconst (v := 1) hx hb dL_law_563 (by decide) ?_
    refine lv_iadd hx hb dL_law_564 ?_
    refine kl_sld hx hb hX hbl hS (t := t) (k := 1) (nI_add (5 * t) 1) (by omega) hL dL_law_565 ?_
    refine lv_aload_n hx hb dL_law_566 rfl (lv_at hl 1 rfl) ?_
    refine lv_iload hx hb dL_law_567 (lv_at hl 5 rfl) ?_
    refine lv_iconst (v := 2) hx hb dL_law_569 (by decide) ?_
    refine lv_iadd hx hb dL_law_570 ?_
    refine kl_sld hx hb hX hbl hS (t := t) (k := 2) (nI_add (5 * t) 2) (by omega) hL dL_law_571 ?_
    refine kf_calliR (wr := (xW cI cZ h a qph qgr qne ((X0_appetite qne qap qpc n (xs (5 * t + 1)) (xs (5 * t + 2))).2) qle qfu qpc qgd qri qnw qtk qsv qwa qgi qlo qtu ++ oW cL o (vp_updL og (0 : Int32).toNatClampNeg ((X0_appetite qne qap qpc n (xs (5 * t + 1)) (xs (5 * t + 2))).1).toInt64))) (rest := []) (q0 := 0) hC (c_X1_appetite l dC dI cI cZ h2 a2 rpt rph rgr rca rne rap rle rfu rba rru rti rtk rsv rgi rpa rth n (xs (5 * t + 1)) (xs (5 * t + 2)) (Rel.rpt hR) (Rel.n8 hR)) (cwV 2 hC.2.2.2.2 gL_law_X1_appetite rfl rfl rfl hd_X1_appetite ⟨Nat.le_of_ble_eq_true rfl, Nat.le_of_ble_eq_true rfl⟩) (k_sub3 hK) hP hD hS hA rfl rfl rfl hl.1 (Nat.le_of_ble_eq_true rfl) dL_law_572 rfl ⟨by show (22 + t) ≤ 1052; omega, by show (170 + 6 * t) ≤ 8398; omega⟩ (fun H locs hP hD hS => ?_)
    refine lv_istore (lv' := [(6, .int ((X1_appetite rpt rca rap n (xs (5 * t + 1)) (xs (5 * t + 2))).1)), (5, .int 0), (0, .ref b), (1, .ref h), (2, .ref h2), (3, .ref o), (4, .int (nI (5 * t)))]) hx hb dL_law_575 hl (by decide) rfl (fun ls hl => ?_)
    refine lv_aload_n hx hb dL_law_577 rfl (lv_at hl 4 rfl) ?_
    refine kf_calliR (wr := (xW cI cZ h a qph qgr qne ((X0_appetite qne qap qpc n (xs (5 * t + 1)) (xs (5 * t + 2))).2) qle qfu qpc qgd qri qnw qtk qsv qwa qgi qlo qtu ++ oW cL o (vp_updL og (0 : Int32).toNatClampNeg ((X0_appetite qne qap qpc n (xs (5 * t + 1)) (xs (5 * t + 2))).1).toInt64))) (rest := []) (q0 := 0) hC (c_X1_thrown l dC dI cI cZ h2 a2 rpt rph rgr rca rne ((X1_appetite rpt rca rap n (xs (5 * t + 1)) (xs (5 * t + 2))).2.1) rle rfu rba rru rti rtk rsv rgi rpa ((X1_appetite rpt rca rap n (xs (5 * t + 1)) (xs (5 * t + 2))).2.2)) (cwV 0 hC.2.2.2.2 gL_law_X1_thrown rfl rfl rfl hd_X1_thrown ⟨Nat.le_of_ble_eq_true rfl, Nat.le_of_ble_eq_true rfl⟩) (k_sub3 hK) hP hD hS hA rfl rfl rfl hl.1 (Nat.le_of_ble_eq_true rfl) dL_law_578 rfl ⟨by show (22 + t) ≤ 1052; omega, by show (170 + 6 * t) ≤ 8398; omega⟩ (fun H locs hP hD hS => ?_)
    refine lv_iload hx hb dL_law_581 (lv_at hl 1 rfl) ?_
    refine lv_icmp_eq (tgt := 588) hx hb dL_law_583 (by decide) (fun _ => ?_) (fun c => absurd e1 c)
    refine lv_iload hx hb dL_law_588 (lv_at hl 1 rfl) ?_
    refine lv_if_ne (tgt := 605) hx hb dL_law_590 (by decide) (fun c => absurd rfl c) (fun _ => ?_)
    refine lv_aload_n hx hb dL_law_593 rfl (lv_at hl 5 rfl) ?_
    refine lv_iconst (v := 0) hx hb dL_law_594 (by decide) ?_
    refine va_lald (f := (vp_updL og (0 : Int32).toNatClampNeg ((X0_appetite qne qap qpc n (xs (5 * t + 1)) (xs (5 * t + 2))).1).toInt64)) hx hb hK hP 11 2 rfl rfl vpc0_1 dL_law_595 ?_
    refine lv_iload hx hb dL_law_596 (lv_at hl 0 rfl) ?_
    refine lv_i2l hx hb dL_law_598 rfl ?_
    refine W.lcmp hx hb dL_law_599 ?_
    refine lv_if_eq (tgt := 605) hx hb dL_law_600 (by decide) (fun _ => ?_) (fun c => absurd (kl_cmp e2) c)
    refine lv_goto (tgt := 1215) hx hb dL_law_605 (by decide) ?_
    refine lv_iinc (v := (nI (5 * (t + 1)))) (lv' := [(4, .int (nI (5 * (t + 1)))), (6, .int ((X1_appetite rpt rca rap n (xs (5 * t + 1)) (xs (5 * t + 2))).1)), (5, .int 0), (0, .ref b), (1, .ref h), (2, .ref h2), (3, .ref o)]) hx hb dL_law_1215 hl (k := 6) rfl (nI_add (5 * t) 5) (by decide) rfl (fun ls hl => ?_)
    refine lv_goto (tgt := 23) hx hb dL_law_1218 (by decide) ?_
    refine W.widen (k := 22 + (t + 1)) (n := 170 + 6 * (t + 1)) (by omega) (by omega) ?_
    exact next _ _ _ _ _ _ _ _ _ _ _ _ _ _ _ _ _ _ _ _ _ _ _ _ _ _ _ _ _ _ _ _ _ _ hR1 H locs ls hP hD hS (lv_sub hl [3, 4, 5, 6, 0] rfl)
  · refine kl_bad (rest := []) (As := [.ref h, .int (xs (5 * t + 1)), .int (xs (5 * t + 2)), .ref o]) hC (cx_L_appetite l hl0 dC dI cI cZ cL h a qph qgr qne qap qle qfu qpc qgd qri qnw qtk qsv qwa qgi qlo qtu n (xs (5 * t + 1)) (xs (5 * t + 2)) o og (Rel.qpc hR) (Rel.n8 hR) hT) (vx_cwSW 4 hC.2.2.2.2 gL_law_L_appetite rfl rfl rfl hdL_appetite ⟨Nat.le_of_ble_eq_true rfl, Nat.le_of_ble_eq_true rfl⟩) hK hNs hZ hP hD hS hA rfl hl.1 (Nat.le_of_ble_eq_true rfl) dL_law_554 rfl ⟨by show 22 + t + 1 ≤ 1052; omega, by show 170 + 6 * t + 6 ≤ 8398; omega⟩ (fun H locs hP hD hS => ?_)
    obtain ⟨e1, hR1⟩ := R_appetite_bad qwa qgi qlo qtu rgi rpa rth (xs (5 * t + 1)) (xs (5 * t + 2)) ht hR hT
    refine lv_istore (lv' := [(5, .int (X0_appetite_T qne qpc n (xs (5 * t + 1)) (xs (5 * t + 2)))), (0, .ref b), (1, .ref h), (2, .ref h2), (3, .ref o), (4, .int (nI (5 * t)))]) hx hb dL_law_557 hl (by decide) rfl (fun ls hl => ?_)
    refine lv_aload_n hx hb dL_law_559 rfl (lv_at hl 3 rfl) ?_
    refine lv_aload_n hx hb dL_law_560 rfl (lv_at hl 1 rfl) ?_
    refine lv_iload hx hb dL_law_561 (lv_at hl 5 rfl) ?_
    refine lv_iconst (v := 1) hx hb dL_law_563 (by decide) ?_
    refine lv_iadd hx hb dL_law_564 ?_
    refine kl_sld hx hb hX hbl hS (t := t) (k := 1) (nI_add (5 * t) 1) (by omega) hL dL_law_565 ?_
    refine lv_aload_n hx hb dL_law_566 rfl (lv_at hl 1 rfl) ?_
    refine lv_iload hx hb dL_law_567 (lv_at hl 5 rfl) ?_
    refine lv_iconst (v := 2) hx hb dL_law_569 (by decide) ?_
    refine lv_iadd hx hb dL_law_570 ?_
    refine kl_sld hx hb hX hbl hS (t := t) (k := 2) (nI_add (5 * t) 2) (by omega) hL dL_law_571 ?_
    refine kf_calliR (wr := (xW cI cZ h a qph qgr qne qap qle qfu qpc qgd qri qnw qtk qsv qwa qgi qlo qtu ++ oW cL o og)) (rest := []) (q0 := 0) hC (c_X1_appetite l dC dI cI cZ h2 a2 rpt rph rgr rca rne rap rle rfu rba rru rti rtk rsv rgi rpa rth n (xs (5 * t + 1)) (xs (5 * t + 2)) (Rel.rpt hR) (Rel.n8 hR)) (cwV 2 hC.2.2.2.2 gL_law_X1_appetite rfl rfl rfl hd_X1_appetite ⟨Nat.le_of_ble_eq_true rfl, Nat.le_of_ble_eq_true rfl⟩) (k_sub3 hK) hP hD hS hA rfl rfl rfl hl.1 (Nat.le_of_ble_eq_true rfl) dL_law_572 rfl ⟨by show (22 + t + 1) ≤ 1052; omega, by show (170 + 6 * t + 6) ≤ 8398; omega⟩ (fun H locs hP hD hS => ?_)
    refine lv_istore (lv' := [(6, .int ((X1_appetite rpt rca rap n (xs (5 * t + 1)) (xs (5 * t + 2))).1)), (5, .int (X0_appetite_T qne qpc n (xs (5 * t + 1)) (xs (5 * t + 2)))), (0, .ref b), (1, .ref h), (2, .ref h2), (3, .ref o), (4, .int (nI (5 * t)))]) hx hb dL_law_575 hl (by decide) rfl (fun ls hl => ?_)
    refine lv_aload_n hx hb dL_law_577 rfl (lv_at hl 4 rfl) ?_
    refine kf_calliR (wr := (xW cI cZ h a qph qgr qne qap qle qfu qpc qgd qri qnw qtk qsv qwa qgi qlo qtu ++ oW cL o og)) (rest := []) (q0 := 0) hC (c_X1_thrown l dC dI cI cZ h2 a2 rpt rph rgr rca rne ((X1_appetite rpt rca rap n (xs (5 * t + 1)) (xs (5 * t + 2))).2.1) rle rfu rba rru rti rtk rsv rgi rpa ((X1_appetite rpt rca rap n (xs (5 * t + 1)) (xs (5 * t + 2))).2.2)) (cwV 0 hC.2.2.2.2 gL_law_X1_thrown rfl rfl rfl hd_X1_thrown ⟨Nat.le_of_ble_eq_true rfl, Nat.le_of_ble_eq_true rfl⟩) (k_sub3 hK) hP hD hS hA rfl rfl rfl hl.1 (Nat.le_of_ble_eq_true rfl) dL_law_578 rfl ⟨by show (22 + t + 1) ≤ 1052; omega, by show (170 + 6 * t + 6) ≤ 8398; omega⟩ (fun H locs hP hD hS => ?_)
    refine lv_iload hx hb dL_law_581 (lv_at hl 1 rfl) ?_
    refine lv_icmp_eq (tgt := 588) hx hb dL_law_583 (by decide) (fun _ => ?_) (fun c => absurd e1 c)
    refine lv_iload hx hb dL_law_588 (lv_at hl 1 rfl) ?_
    refine lv_if_ne (tgt := 605) hx hb dL_law_590 (by decide) (fun _ => ?_) (fun c => absurd c hT)
    refine lv_goto (tgt := 1215) hx hb dL_law_605 (by decide) ?_
    refine lv_iinc (v := (nI (5 * (t + 1)))) (lv' := [(4, .int (nI (5 * (t + 1)))), (6, .int ((X1_appetite rpt rca rap n (xs (5 * t + 1)) (xs (5 * t + 2))).1)), (5, .int (X0_appetite_T qne qpc n (xs (5 * t + 1)) (xs (5 * t + 2)))), (0, .ref b), (1, .ref h), (2, .ref h2), (3, .ref o)]) hx hb dL_law_1215 hl (k := 6) rfl (nI_add (5 * t) 5) (by decide) rfl (fun ls hl => ?_)
    refine lv_goto (tgt := 23) hx hb dL_law_1218 (by decide) ?_
    refine W.widen (k := 22 + (t + 1)) (n := 170 + 6 * (t + 1)) (by omega) (by omega) ?_
    exact next _ _ _ _ _ _ _ _ _ _ _ _ _ _ _ _ _ _ _ _ _ _ _ _ _ _ _ _ _ _ _ _ _ _ hR1 H locs ls hP hD hS (lv_sub hl [3, 4, 5, 6, 0] rfl)
set_option maxHeartbeats 4000000 in
set_option maxRecDepth 100000 in
theorem case_stay {p : Program} {l : Launch} {e : Env} {s : State} {m : MethodId} {args : Array Value} {below : List Frame} {meth : Method} {c : Code} {Q : State → Prop} {dC : Nat → ClassId} {dI : Nat → Nat → Nat} {cI cZ cL : ClassId} {b L : Nat} {xs : Nat → Int32} {h h2 o : Nat} {a a2 : Nat → Nat} {t n : Nat} {qph : AR} {qgr : AR} {qne : AR} {qap : AR} {qle : AR} {qfu : AR} {qpc : Int32} {qgd : Int32} {qri : Int32} {qnw : Int32} {qtk : Int32} {qsv : Int32} {qwa : AR} {qgi : AR} {qlo : AR} {qtu : AR} {rpt : Int32} {rph : AR} {rgr : AR} {rca : AR} {rne : AR} {rap : AR} {rle : AR} {rfu : AR} {rba : Int32} {rru : Int32} {rti : Int32} {rtk : Int32} {rsv : Int32} {rgi : AR} {rpa : AR} {rth : Int32} {og : Nat → Int64} (hC : CallFix p m c cL_law 7 s args wsL_law RL) (hl0 : l.stackTraces = false) (hX : va_X b L xs s s.heap) (hbl : b < s.heap.size) (hL : L ≤ 2560) (hK : va_K (dC, dI) vwCl (kT3 cI cZ cL) s) (hNs : kN s) (hZ : kZ (fun q : Nat => s.heap.size ≤ q) s s.heap) (ht : t < 512) (htL : 5 * t + 4 < L) (hR : Rel t n qph qgr qne qap qle qfu qpc qgd qri qnw qtk qsv rpt rph rgr rca rne rap rle rfu rba rru rti rtk rsv) (next : (∀ (n : Nat) (qph : AR) (qgr : AR) (qne : AR) (qap : AR) (qle : AR) (qfu : AR) (qpc : Int32) (qgd : Int32) (qri : Int32) (qnw : Int32) (qtk : Int32) (qsv : Int32) (qwa : AR) (qgi : AR) (qlo : AR) (qtu : AR) (rpt : Int32) (rph : AR) (rgr : AR) (rca : AR) (rne : AR) (rap : AR) (rle : AR) (rfu : AR) (rba : Int32) (rru : Int32) (rti : Int32) (rtk : Int32) (rsv : Int32) (rgi : AR) (rpa : AR) (rth : Int32) (og : Nat → Int64), Rel (t + 1) n qph qgr qne qap qle qfu qpc qgd qri qnw qtk qsv rpt rph rgr rca rne rap rle rfu rba rru rti rtk rsv → ∀ (H : Heap) (locs : List Loc) (ls : Array Slot), va_P (dC, dI) vwCl ((xW cI cZ h a qph qgr qne qap qle qfu qpc qgd qri qnw qtk qsv qwa qgi qlo qtu ++ oW cL o og) ++ mW cI cZ h2 a2 rpt rph rgr rca rne rap rle rfu rba rru rti rtk rsv rgi rpa rth) H → va_D (fun q : Nat => s.heap.size ≤ q) ((xW cI cZ h a qph qgr qne qap qle qfu qpc qgd qri qnw qtk qsv qwa qgi qlo qtu ++ oW cL o og) ++ mW cI cZ h2 a2 rpt rph rgr rca rne rap rle rfu rba rru rti rtk rsv rgi rpa rth) → va_S (fun q : Nat => s.heap.size ≤ q) s.heap H locs → lv_has ls 7 [(0, .ref b), (1, .ref h), (2, .ref h2), (3, .ref o), (4, .int (nI (5 * (t + 1))))] → W p l e room_1 s m args below meth c H locs (22 + (t + 1)) (170 + 6 * (t + 1)) Q (F0 m 23 ls []))) {H : Heap} {locs : List Loc} {ls : Array Slot} (hP : va_P (dC, dI) vwCl ((xW cI cZ h a qph qgr qne qap qle qfu qpc qgd qri qnw qtk qsv qwa qgi qlo qtu ++ oW cL o og) ++ mW cI cZ h2 a2 rpt rph rgr rca rne rap rle rfu rba rru rti rtk rsv rgi rpa rth) H) (hD : va_D (fun q : Nat => s.heap.size ≤ q) ((xW cI cZ h a qph qgr qne qap qle qfu qpc qgd qri qnw qtk qsv qwa qgi qlo qtu ++ oW cL o og) ++ mW cI cZ h2 a2 rpt rph rgr rca rne rap rle rfu rba rru rti rtk rsv rgi rpa rth)) (hS : va_S (fun q : Nat => s.heap.size ≤ q) s.heap H locs) (hl : lv_has ls 7 [(0, .ref b), (1, .ref h), (2, .ref h2), (3, .ref o), (4, .int (nI (5 * t)))]) : W p l e room_1 s m args below meth c H locs (22 + t) (170 + 6 * t) Q (F0 m 608 ls []) := by
  obtain ⟨hx, hb, hml, hown, hts⟩ := id hC
  have hA : ∀ q : Nat, s.heap.size ≤ q → (fun q : Nat => s.heap.size ≤ q) q := fun _ h => h
  refine lv_aload_n hx hb dL_law_608 rfl (lv_at hl 1 rfl) ?_
  refine lv_aload_n hx hb dL_law_609 rfl (lv_at hl 0 rfl) ?_
  refine lv_iload hx hb dL_law_610 (lv_at hl 4 rfl) ?_
  refine lv_iconst (v := 1) hx hb dL_law_612 (by decide) ?_
  refine lv_iadd hx hb dL_law_613 ?_
  refine kl_sld hx hb hX hbl hS (t := t) (k := 1) (nI_add (5 * t) 1) (by omega) hL dL_law_614 ?_
  refine lv_aload_n hx hb dL_law_615 rfl (lv_at hl 0 rfl) ?_
  refine lv_iload hx hb dL_law_616 (lv_at hl 4 rfl) ?_
  refine lv_iconst (v := 2) hx hb dL_law_618 (by decide) ?_
  refine lv_iadd hx hb dL_law_619 ?_
  refine kl_sld hx hb hX hbl hS (t := t) (k := 2) (nI_add (5 * t) 2) (by omega) hL dL_law_620 ?_
  refine lv_aload_n hx hb dL_law_621 rfl (lv_at hl 3 rfl) ?_
  by_cases hT : (X0_stay_T qne qpc n (xs (5 * t + 1)) (xs (5 * t + 2))) = 0
  · refine kl_ok (rest := []) (As := [.ref h, .int (xs (5 * t + 1)), .int (xs (5 * t + 2)), .ref o]) hC (c_L_stay l dC dI cI cZ cL h a qph qgr qne qap qle qfu qpc qgd qri qnw qtk qsv qwa qgi qlo qtu n (xs (5 * t + 1)) (xs (5 * t + 2)) o og (Rel.qpc hR) (Rel.n8 hR) hT) (vx_cwSW 4 hC.2.2.2.2 gL_law_L_stay rfl rfl rfl hdL_stay ⟨Nat.le_of_ble_eq_true rfl, Nat.le_of_ble_eq_true rfl⟩) hK hP hD hS hA rfl hl.1 (Nat.le_of_ble_eq_true rfl) dL_law_622 rfl ⟨by show 22 + t ≤ 1052; omega, by show 170 + 6 * t ≤ 8398; omega⟩ (fun H locs hP hD hS => ?_)
    obtain ⟨e1, e2, hR1⟩ := R_stay_ok qwa qgi qlo qtu rgi rpa rth (xs (5 * t + 1)) (xs (5 * t + 2)) ht hR hT
    refine lv_istore (lv' := [(5, .int 0), (0, .ref b), (1, .ref h), (2, .ref h2), (3, .ref o), (4, .int (nI (5 * t)))]) hx hb dL_law_625 hl (by decide) rfl (fun ls hl => ?_)
    refine lv_aload_n hx hb dL_law_627 rfl (lv_at hl 3 rfl) ?_
    refine lv_aload_n hx hb dL_law_628 rfl (lv_at hl 1 rfl) ?_
    refine lv_iload hx hb dL_law_629 (lv_at hl 5 rfl) ?_
    refine lv_iconst (v := 1) hx hb dL_law_631 (by decide) ?_
    refine lv_iadd hx hb dL_law_632 ?_
    refine kl_sld hx hb hX hbl hS (t := t) (k := 1) (nI_add (5 * t) 1) (by omega) hL dL_law_633 ?_
    refine lv_aload_n hx hb dL_law_634 rfl (lv_at hl 1 rfl) ?_
    refine lv_iload hx hb dL_law_635 (lv_at hl 5 rfl) ?_
    refine lv_iconst (v := 2) hx hb dL_law_637 (by decide) ?_
    refine lv_iadd hx hb dL_law_638 ?_
    refine kl_sld hx hb hX hbl hS (t := t) (k := 2) (nI_add (5 * t) 2) (by omega) hL dL_law_639 ?_
    refine kf_calliR (wr := (xW cI cZ h a qph qgr qne qap ((X0_stay qne qle qpc qnw n (xs (5 * t + 1)) (xs (5 * t + 2))).2) qfu qpc qgd qri qnw qtk qsv qwa qgi qlo qtu ++ oW cL o (vp_updL og (0 : Int32).toNatClampNeg ((X0_stay qne qle qpc qnw n (xs (5 * t + 1)) (xs (5 * t + 2))).1).toInt64))) (rest := []) (q0 := 0) hC (c_X1_stay l dC dI cI cZ h2 a2 rpt rph rgr rca rne rap rle rfu rba rru rti rtk rsv rgi rpa rth n (xs (5 * t + 1)) (xs (5 * t + 2)) (Rel.rpt hR) (Rel.n8 hR)) (cwV 2 hC.2.2.2.2 gL_law_X1_stay rfl rfl rfl hd_X1_stay ⟨Nat.le_of_ble_eq_true rfl, Nat.le_of_ble_eq_true rfl⟩) (k_sub3 hK) hP hD hS hA rfl rfl rfl hl.1 (Nat.le_of_ble_eq_true rfl) dL_law_640 rfl ⟨by show (22 + t) ≤ 1052; omega, by show (170 + 6 * t) ≤ 8398; omega⟩ (fun H locs hP hD hS => ?_)
    refine lv_istore (lv' := [(6, .int ((X1_stay rpt rca rle rti n (xs (5 * t + 1)) (xs (5 * t + 2))).1)), (5, .int 0), (0, .ref b), (1, .ref h), (2, .ref h2), (3, .ref o), (4, .int (nI (5 * t)))]) hx hb dL_law_643 hl (by decide) rfl (fun ls hl => ?_)
    refine lv_aload_n hx hb dL_law_645 rfl (lv_at hl 4 rfl) ?_
    refine kf_calliR (wr := (xW cI cZ h a qph qgr qne qap ((X0_stay qne qle qpc qnw n (xs (5 * t + 1)) (xs (5 * t + 2))).2) qfu qpc qgd qri qnw qtk qsv qwa qgi qlo qtu ++ oW cL o (vp_updL og (0 : Int32).toNatClampNeg ((X0_stay qne qle qpc qnw n (xs (5 * t + 1)) (xs (5 * t + 2))).1).toInt64))) (rest := []) (q0 := 0) hC (c_X1_thrown l dC dI cI cZ h2 a2 rpt rph rgr rca rne rap ((X1_stay rpt rca rle rti n (xs (5 * t + 1)) (xs (5 * t + 2))).2.1) rfu rba rru rti rtk rsv rgi rpa ((X1_stay rpt rca rle rti n (xs (5 * t + 1)) (xs (5 * t + 2))).2.2)) (cwV 0 hC.2.2.2.2 gL_law_X1_thrown rfl rfl rfl hd_X1_thrown ⟨Nat.le_of_ble_eq_true rfl, Nat.le_of_ble_eq_true rfl⟩) (k_sub3 hK) hP hD hS hA rfl rfl rfl hl.1 (Nat.le_of_ble_eq_true rfl) dL_law_646 rfl ⟨by show (22 + t) ≤ 1052; omega, by show (170 + 6 * t) ≤ 8398; omega⟩ (fun H locs hP hD hS => ?_)
    refine lv_iload hx hb dL_law_649 (lv_at hl 1 rfl) ?_
    refine lv_icmp_eq (tgt := 656) hx hb dL_law_651 (by decide) (fun _ => ?_) (fun c => absurd e1 c)
    refine lv_iload hx hb dL_law_656 (lv_at hl 1 rfl) ?_
    refine lv_if_ne (tgt := 673) hx hb dL_law_658 (by decide) (fun c => absurd rfl c) (fun _ => ?_)
    refine lv_aload_n hx hb dL_law_661 rfl (lv_at hl 5 rfl) ?_
    refine lv_iconst (v := 0) hx hb dL_law_662 (by decide) ?_
    refine va_lald (f := (vp_updL og (0 : Int32).toNatClampNeg ((X0_stay qne qle qpc qnw n (xs (5 * t + 1)) (xs (5 * t + 2))).1).toInt64)) hx hb hK hP 11 2 rfl rfl vpc0_1 dL_law_663 ?_
    refine lv_iload hx hb dL_law_664 (lv_at hl 0 rfl) ?_
    refine lv_i2l hx hb dL_law_666 rfl ?_
    refine W.lcmp hx hb dL_law_667 ?_
    refine lv_if_eq (tgt := 673) hx hb dL_law_668 (by decide) (fun _ => ?_) (fun c => absurd (kl_cmp e2) c)
    refine lv_goto (tgt := 1215) hx hb dL_law_673 (by decide) ?_
    refine lv_iinc (v := (nI (5 * (t + 1)))) (lv' := [(4, .int (nI (5 * (t + 1)))), (6, .int ((X1_stay rpt rca rle rti n (xs (5 * t + 1)) (xs (5 * t + 2))).1)), (5, .int 0), (0, .ref b), (1, .ref h), (2, .ref h2), (3, .ref o)]) hx hb dL_law_1215 hl (k := 6) rfl (nI_add (5 * t) 5) (by decide) rfl (fun ls hl => ?_)
    refine lv_goto (tgt := 23) hx hb dL_law_1218 (by decide) ?_
    refine W.widen (k := 22 + (t + 1)) (n := 170 + 6 * (t + 1)) (by omega) (by omega) ?_
    exact next _ _ _ _ _ _ _ _ _ _ _ _ _ _ _ _ _ _ _ _ _ _ _ _ _ _ _ _ _ _ _ _ _ _ hR1 H locs ls hP hD hS (lv_sub hl [3, 4, 5, 6, 0] rfl)
  · refine kl_bad (rest := []) (As := [.ref h, .int (xs (5 * t + 1)), .int (xs (5 * t + 2)), .ref o]) hC (cx_L_stay l hl0 dC dI cI cZ cL h a qph qgr qne qap qle qfu qpc qgd qri qnw qtk qsv qwa qgi qlo qtu n (xs (5 * t + 1)) (xs (5 * t + 2)) o og (Rel.qpc hR) (Rel.n8 hR) hT) (vx_cwSW 4 hC.2.2.2.2 gL_law_L_stay rfl rfl rfl hdL_stay ⟨Nat.le_of_ble_eq_true rfl, Nat.le_of_ble_eq_true rfl⟩) hK hNs hZ hP hD hS hA rfl hl.1 (Nat.le_of_ble_eq_true rfl) dL_law_622 rfl ⟨by show 22 + t + 1 ≤ 1052; omega, by show 170 + 6 * t + 6 ≤ 8398; omega⟩ (fun H locs hP hD hS => ?_)
    obtain ⟨e1, hR1⟩ := R_stay_bad qwa qgi qlo qtu rgi rpa rth (xs (5 * t + 1)) (xs (5 * t + 2)) ht hR hT
    refine lv_istore (lv' := [(5, .int (X0_stay_T qne qpc n (xs (5 * t + 1)) (xs (5 * t + 2)))), (0, .ref b), (1, .ref h), (2, .ref h2), (3, .ref o), (4, .int (nI (5 * t)))]) hx hb dL_law_625 hl (by decide) rfl (fun ls hl => ?_)
    refine lv_aload_n hx hb dL_law_627 rfl (lv_at hl 3 rfl) ?_
    refine lv_aload_n hx hb dL_law_628 rfl (lv_at hl 1 rfl) ?_
    refine lv_iload hx hb dL_law_629 (lv_at hl 5 rfl) ?_
    refine lv_iconst (v := 1) hx hb dL_law_631 (by decide) ?_
    refine lv_iadd hx hb dL_law_632 ?_
    refine kl_sld hx hb hX hbl hS (t := t) (k := 1) (nI_add (5 * t) 1) (by omega) hL dL_law_633 ?_
    refine lv_aload_n hx hb dL_law_634 rfl (lv_at hl 1 rfl) ?_
    refine lv_iload hx hb dL_law_635 (lv_at hl 5 rfl) ?_
    refine lv_iconst (v := 2) hx hb dL_law_637 (by decide) ?_
    refine lv_iadd hx hb dL_law_638 ?_
    refine kl_sld hx hb hX hbl hS (t := t) (k := 2) (nI_add (5 * t) 2) (by omega) hL dL_law_639 ?_
    refine kf_calliR (wr := (xW cI cZ h a qph qgr qne qap qle qfu qpc qgd qri qnw qtk qsv qwa qgi qlo qtu ++ oW cL o og)) (rest := []) (q0 := 0) hC (c_X1_stay l dC dI cI cZ h2 a2 rpt rph rgr rca rne rap rle rfu rba rru rti rtk rsv rgi rpa rth n (xs (5 * t + 1)) (xs (5 * t + 2)) (Rel.rpt hR) (Rel.n8 hR)) (cwV 2 hC.2.2.2.2 gL_law_X1_stay rfl rfl rfl hd_X1_stay ⟨Nat.le_of_ble_eq_true rfl, Nat.le_of_ble_eq_true rfl⟩) (k_sub3 hK) hP hD hS hA rfl rfl rfl hl.1 (Nat.le_of_ble_eq_true rfl) dL_law_640 rfl ⟨by show (22 + t + 1) ≤ 1052; omega, by show (170 + 6 * t + 6) ≤ 8398; omega⟩ (fun H locs hP hD hS => ?_)
    refine lv_istore (lv' := [(6, .int ((X1_stay rpt rca rle rti n (xs (5 * t + 1)) (xs (5 * t + 2))).1)), (5, .int (X0_stay_T qne qpc n (xs (5 * t + 1)) (xs (5 * t + 2)))), (0, .ref b), (1, .ref h), (2, .ref h2), (3, .ref o), (4, .int (nI (5 * t)))]) hx hb dL_law_643 hl (by decide) rfl (fun ls hl => ?_)
    refine lv_aload_n hx hb dL_law_645 rfl (lv_at hl 4 rfl) ?_
    refine kf_calliR (wr := (xW cI cZ h a qph qgr qne qap qle qfu qpc qgd qri qnw qtk qsv qwa qgi qlo qtu ++ oW cL o og)) (rest := []) (q0 := 0) hC (c_X1_thrown l dC dI cI cZ h2 a2 rpt rph rgr rca rne rap ((X1_stay rpt rca rle rti n (xs (5 * t + 1)) (xs (5 * t + 2))).2.1) rfu rba rru rti rtk rsv rgi rpa ((X1_stay rpt rca rle rti n (xs (5 * t + 1)) (xs (5 * t + 2))).2.2)) (cwV 0 hC.2.2.2.2 gL_law_X1_thrown rfl rfl rfl hd_X1_thrown ⟨Nat.le_of_ble_eq_true rfl, Nat.le_of_ble_eq_true rfl⟩) (k_sub3 hK) hP hD hS hA rfl rfl rfl hl.1 (Nat.le_of_ble_eq_true rfl) dL_law_646 rfl ⟨by show (22 + t + 1) ≤ 1052; omega, by show (170 + 6 * t + 6) ≤ 8398; omega⟩ (fun H locs hP hD hS => ?_)
    refine lv_iload hx hb dL_law_649 (lv_at hl 1 rfl) ?_
    refine lv_icmp_eq (tgt := 656) hx hb dL_law_651 (by decide) (fun _ => ?_) (fun c => absurd e1 c)
    refine lv_iload hx hb dL_law_656 (lv_at hl 1 rfl) ?_
    refine lv_if_ne (tgt := 673) hx hb dL_law_658 (by decide) (fun _ => ?_) (fun c => absurd c hT)
    refine lv_goto (tgt := 1215) hx hb dL_law_673 (by decide) ?_
    refine lv_iinc (v := (nI (5 * (t + 1)))) (lv' := [(4, .int (nI (5 * (t + 1)))), (6, .int ((X1_stay rpt rca rle rti n (xs (5 * t + 1)) (xs (5 * t + 2))).1)), (5, .int (X0_stay_T qne qpc n (xs (5 * t + 1)) (xs (5 * t + 2)))), (0, .ref b), (1, .ref h), (2, .ref h2), (3, .ref o)]) hx hb dL_law_1215 hl (k := 6) rfl (nI_add (5 * t) 5) (by decide) rfl (fun ls hl => ?_)
    refine lv_goto (tgt := 23) hx hb dL_law_1218 (by decide) ?_
    refine W.widen (k := 22 + (t + 1)) (n := 170 + 6 * (t + 1)) (by omega) (by omega) ?_
    exact next _ _ _ _ _ _ _ _ _ _ _ _ _ _ _ _ _ _ _ _ _ _ _ _ _ _ _ _ _ _ _ _ _ _ hR1 H locs ls hP hD hS (lv_sub hl [3, 4, 5, 6, 0] rfl)
set_option maxHeartbeats 4000000 in
set_option maxRecDepth 100000 in
theorem case_step {p : Program} {l : Launch} {e : Env} {s : State} {m : MethodId} {args : Array Value} {below : List Frame} {meth : Method} {c : Code} {Q : State → Prop} {dC : Nat → ClassId} {dI : Nat → Nat → Nat} {cI cZ cL : ClassId} {b L : Nat} {xs : Nat → Int32} {h h2 o : Nat} {a a2 : Nat → Nat} {t n : Nat} {qph : AR} {qgr : AR} {qne : AR} {qap : AR} {qle : AR} {qfu : AR} {qpc : Int32} {qgd : Int32} {qri : Int32} {qnw : Int32} {qtk : Int32} {qsv : Int32} {qwa : AR} {qgi : AR} {qlo : AR} {qtu : AR} {rpt : Int32} {rph : AR} {rgr : AR} {rca : AR} {rne : AR} {rap : AR} {rle : AR} {rfu : AR} {rba : Int32} {rru : Int32} {rti : Int32} {rtk : Int32} {rsv : Int32} {rgi : AR} {rpa : AR} {rth : Int32} {og : Nat → Int64} (hC : CallFix p m c cL_law 7 s args wsL_law RL) (hl0 : l.stackTraces = false) (hX : va_X b L xs s s.heap) (hbl : b < s.heap.size) (hL : L ≤ 2560) (hK : va_K (dC, dI) vwCl (kT3 cI cZ cL) s) (hNs : kN s) (hZ : kZ (fun q : Nat => s.heap.size ≤ q) s s.heap) (ht : t < 512) (htL : 5 * t + 4 < L) (hR : Rel t n qph qgr qne qap qle qfu qpc qgd qri qnw qtk qsv rpt rph rgr rca rne rap rle rfu rba rru rti rtk rsv) (next : (∀ (n : Nat) (qph : AR) (qgr : AR) (qne : AR) (qap : AR) (qle : AR) (qfu : AR) (qpc : Int32) (qgd : Int32) (qri : Int32) (qnw : Int32) (qtk : Int32) (qsv : Int32) (qwa : AR) (qgi : AR) (qlo : AR) (qtu : AR) (rpt : Int32) (rph : AR) (rgr : AR) (rca : AR) (rne : AR) (rap : AR) (rle : AR) (rfu : AR) (rba : Int32) (rru : Int32) (rti : Int32) (rtk : Int32) (rsv : Int32) (rgi : AR) (rpa : AR) (rth : Int32) (og : Nat → Int64), Rel (t + 1) n qph qgr qne qap qle qfu qpc qgd qri qnw qtk qsv rpt rph rgr rca rne rap rle rfu rba rru rti rtk rsv → ∀ (H : Heap) (locs : List Loc) (ls : Array Slot), va_P (dC, dI) vwCl ((xW cI cZ h a qph qgr qne qap qle qfu qpc qgd qri qnw qtk qsv qwa qgi qlo qtu ++ oW cL o og) ++ mW cI cZ h2 a2 rpt rph rgr rca rne rap rle rfu rba rru rti rtk rsv rgi rpa rth) H → va_D (fun q : Nat => s.heap.size ≤ q) ((xW cI cZ h a qph qgr qne qap qle qfu qpc qgd qri qnw qtk qsv qwa qgi qlo qtu ++ oW cL o og) ++ mW cI cZ h2 a2 rpt rph rgr rca rne rap rle rfu rba rru rti rtk rsv rgi rpa rth) → va_S (fun q : Nat => s.heap.size ≤ q) s.heap H locs → lv_has ls 7 [(0, .ref b), (1, .ref h), (2, .ref h2), (3, .ref o), (4, .int (nI (5 * (t + 1))))] → W p l e room_1 s m args below meth c H locs (22 + (t + 1)) (170 + 6 * (t + 1)) Q (F0 m 23 ls []))) {H : Heap} {locs : List Loc} {ls : Array Slot} (hP : va_P (dC, dI) vwCl ((xW cI cZ h a qph qgr qne qap qle qfu qpc qgd qri qnw qtk qsv qwa qgi qlo qtu ++ oW cL o og) ++ mW cI cZ h2 a2 rpt rph rgr rca rne rap rle rfu rba rru rti rtk rsv rgi rpa rth) H) (hD : va_D (fun q : Nat => s.heap.size ≤ q) ((xW cI cZ h a qph qgr qne qap qle qfu qpc qgd qri qnw qtk qsv qwa qgi qlo qtu ++ oW cL o og) ++ mW cI cZ h2 a2 rpt rph rgr rca rne rap rle rfu rba rru rti rtk rsv rgi rpa rth)) (hS : va_S (fun q : Nat => s.heap.size ≤ q) s.heap H locs) (hl : lv_has ls 7 [(0, .ref b), (1, .ref h), (2, .ref h2), (3, .ref o), (4, .int (nI (5 * t)))]) : W p l e room_1 s m args below meth c H locs (22 + t) (170 + 6 * t) Q (F0 m 676 ls []) := by
  obtain ⟨hx, hb, hml, hown, hts⟩ := id hC
  have hA : ∀ q : Nat, s.heap.size ≤ q → (fun q : Nat => s.heap.size ≤ q) q := fun _ h => h
  refine lv_aload_n hx hb dL_law_676 rfl (lv_at hl 1 rfl) ?_
  refine lv_aload_n hx hb dL_law_677 rfl (lv_at hl 0 rfl) ?_
  refine lv_iload hx hb dL_law_678 (lv_at hl 4 rfl) ?_
  refine lv_iconst (v := 1) hx hb dL_law_680 (by decide) ?_
  refine lv_iadd hx hb dL_law_681 ?_
  refine kl_sld hx hb hX hbl hS (t := t) (k := 1) (nI_add (5 * t) 1) (by omega) hL dL_law_682 ?_
  refine lv_aload_n hx hb dL_law_683 rfl (lv_at hl 3 rfl) ?_
  by_cases hT : (X0_step_T n (xs (5 * t + 1))) = 0
  · refine kl_ok (rest := []) (As := [.ref h, .int (xs (5 * t + 1)), .ref o]) hC (c_L_step l dC dI cI cZ cL h a qph qgr qne qap qle qfu qpc qgd qri qnw qtk qsv qwa qgi qlo qtu n (xs (5 * t + 1)) o og (Rel.qpc hR) (Rel.n8 hR) hT) (vx_cwSW 3 hC.2.2.2.2 gL_law_L_step rfl rfl rfl hdL_step ⟨Nat.le_of_ble_eq_true rfl, Nat.le_of_ble_eq_true rfl⟩) hK hP hD hS hA rfl hl.1 (Nat.le_of_ble_eq_true rfl) dL_law_684 rfl ⟨by show 22 + t ≤ 1052; omega, by show 170 + 6 * t ≤ 8398; omega⟩ (fun H locs hP hD hS => ?_)
    obtain ⟨e1, e2, hR1⟩ := R_step_ok qwa qgi qlo qtu rgi rpa rth (xs (5 * t + 1)) ht hR hT
    refine lv_istore (lv' := [(5, .int 0), (0, .ref b), (1, .ref h), (2, .ref h2), (3, .ref o), (4, .int (nI (5 * t)))]) hx hb dL_law_687 hl (by decide) rfl (fun ls hl => ?_)
    refine lv_aload_n hx hb dL_law_689 rfl (lv_at hl 3 rfl) ?_
    refine lv_aload_n hx hb dL_law_690 rfl (lv_at hl 1 rfl) ?_
    refine lv_iload hx hb dL_law_691 (lv_at hl 5 rfl) ?_
    refine lv_iconst (v := 1) hx hb dL_law_693 (by decide) ?_
    refine lv_iadd hx hb dL_law_694 ?_
    refine kl_sld hx hb hX hbl hS (t := t) (k := 1) (nI_add (5 * t) 1) (by omega) hL dL_law_695 ?_
    refine kf_calliR (wr := (xW cI cZ h a qph qgr ((X0_step qph qgr qne qap qle qfu qgd qri qnw qtk qwa qgi qlo qtu n (xs (5 * t + 1))).2.1) qap qle qfu qpc qgd qri ((X0_step qph qgr qne qap qle qfu qgd qri qnw qtk qwa qgi qlo qtu n (xs (5 * t + 1))).2.2.1) ((X0_step qph qgr qne qap qle qfu qgd qri qnw qtk qwa qgi qlo qtu n (xs (5 * t + 1))).2.2.2.1) qsv ((X0_step qph qgr qne qap qle qfu qgd qri qnw qtk qwa qgi qlo qtu n (xs (5 * t + 1))).2.2.2.2.1) ((X0_step qph qgr qne qap qle qfu qgd qri qnw qtk qwa qgi qlo qtu n (xs (5 * t + 1))).2.2.2.2.2.1) ((X0_step qph qgr qne qap qle qfu qgd qri qnw qtk qwa qgi qlo qtu n (xs (5 * t + 1))).2.2.2.2.2.2.1) ((X0_step qph qgr qne qap qle qfu qgd qri qnw qtk qwa qgi qlo qtu n (xs (5 * t + 1))).2.2.2.2.2.2.2) ++ oW cL o (vp_updL og (0 : Int32).toNatClampNeg ((X0_step qph qgr qne qap qle qfu qgd qri qnw qtk qwa qgi qlo qtu n (xs (5 * t + 1))).1).toInt64))) (rest := []) (q0 := 0) hC (c_X1_step l dC dI cI cZ h2 a2 rpt rph rgr rca rne rap rle rfu rba rru rti rtk rsv rgi rpa rth n (xs (5 * t + 1)) (Rel.rpt hR) (Rel.n8 hR) (Rel.mI hR)) (cwV 1 hC.2.2.2.2 gL_law_X1_step rfl rfl rfl hd_X1_step ⟨Nat.le_of_ble_eq_true rfl, Nat.le_of_ble_eq_true rfl⟩) (k_sub3 hK) hP hD hS hA rfl rfl rfl hl.1 (Nat.le_of_ble_eq_true rfl) dL_law_696 rfl ⟨by show (22 + t) ≤ 1052; omega, by show (170 + 6 * t) ≤ 8398; omega⟩ (fun H locs hP hD hS => ?_)
    refine lv_istore (lv' := [(6, .int ((X1_step rph rgr rca rne rap rle rfu rba rru rti rtk rgi rpa n (xs (5 * t + 1))).1)), (5, .int 0), (0, .ref b), (1, .ref h), (2, .ref h2), (3, .ref o), (4, .int (nI (5 * t)))]) hx hb dL_law_699 hl (by decide) rfl (fun ls hl => ?_)
    refine lv_aload_n hx hb dL_law_701 rfl (lv_at hl 4 rfl) ?_
    refine kf_calliR (wr := (xW cI cZ h a qph qgr ((X0_step qph qgr qne qap qle qfu qgd qri qnw qtk qwa qgi qlo qtu n (xs (5 * t + 1))).2.1) qap qle qfu qpc qgd qri ((X0_step qph qgr qne qap qle qfu qgd qri qnw qtk qwa qgi qlo qtu n (xs (5 * t + 1))).2.2.1) ((X0_step qph qgr qne qap qle qfu qgd qri qnw qtk qwa qgi qlo qtu n (xs (5 * t + 1))).2.2.2.1) qsv ((X0_step qph qgr qne qap qle qfu qgd qri qnw qtk qwa qgi qlo qtu n (xs (5 * t + 1))).2.2.2.2.1) ((X0_step qph qgr qne qap qle qfu qgd qri qnw qtk qwa qgi qlo qtu n (xs (5 * t + 1))).2.2.2.2.2.1) ((X0_step qph qgr qne qap qle qfu qgd qri qnw qtk qwa qgi qlo qtu n (xs (5 * t + 1))).2.2.2.2.2.2.1) ((X0_step qph qgr qne qap qle qfu qgd qri qnw qtk qwa qgi qlo qtu n (xs (5 * t + 1))).2.2.2.2.2.2.2) ++ oW cL o (vp_updL og (0 : Int32).toNatClampNeg ((X0_step qph qgr qne qap qle qfu qgd qri qnw qtk qwa qgi qlo qtu n (xs (5 * t + 1))).1).toInt64))) (rest := []) (q0 := 0) hC (c_X1_thrown l dC dI cI cZ h2 a2 rpt rph rgr rca ((X1_step rph rgr rca rne rap rle rfu rba rru rti rtk rgi rpa n (xs (5 * t + 1))).2.1) rap rle rfu rba rru ((X1_step rph rgr rca rne rap rle rfu rba rru rti rtk rgi rpa n (xs (5 * t + 1))).2.2.1) ((X1_step rph rgr rca rne rap rle rfu rba rru rti rtk rgi rpa n (xs (5 * t + 1))).2.2.2.1) rsv ((X1_step rph rgr rca rne rap rle rfu rba rru rti rtk rgi rpa n (xs (5 * t + 1))).2.2.2.2.1) ((X1_step rph rgr rca rne rap rle rfu rba rru rti rtk rgi rpa n (xs (5 * t + 1))).2.2.2.2.2.1) ((X1_step rph rgr rca rne rap rle rfu rba rru rti rtk rgi rpa n (xs (5 * t + 1))).2.2.2.2.2.2)) (cwV 0 hC.2.2.2.2 gL_law_X1_thrown rfl rfl rfl hd_X1_thrown ⟨Nat.le_of_ble_eq_true rfl, Nat.le_of_ble_eq_true rfl⟩) (k_sub3 hK) hP hD hS hA rfl rfl rfl hl.1 (Nat.le_of_ble_eq_true rfl) dL_law_702 rfl ⟨by show (22 + t) ≤ 1052; omega, by show (170 + 6 * t) ≤ 8398; omega⟩ (fun H locs hP hD hS => ?_)
    refine lv_iload hx hb dL_law_705 (lv_at hl 1 rfl) ?_
    refine lv_icmp_eq (tgt := 712) hx hb dL_law_707 (by decide) (fun _ => ?_) (fun c => absurd e1 c)
    refine lv_iload hx hb dL_law_712 (lv_at hl 1 rfl) ?_
    refine lv_if_ne (tgt := 729) hx hb dL_law_714 (by decide) (fun c => absurd rfl c) (fun _ => ?_)
    refine lv_aload_n hx hb dL_law_717 rfl (lv_at hl 5 rfl) ?_
    refine lv_iconst (v := 0) hx hb dL_law_718 (by decide) ?_
    refine va_lald (f := (vp_updL og (0 : Int32).toNatClampNeg ((X0_step qph qgr qne qap qle qfu qgd qri qnw qtk qwa qgi qlo qtu n (xs (5 * t + 1))).1).toInt64)) hx hb hK hP 11 2 rfl rfl vpc0_1 dL_law_719 ?_
    refine lv_iload hx hb dL_law_720 (lv_at hl 0 rfl) ?_
    refine lv_i2l hx hb dL_law_722 rfl ?_
    refine W.lcmp hx hb dL_law_723 ?_
    refine lv_if_eq (tgt := 729) hx hb dL_law_724 (by decide) (fun _ => ?_) (fun c => absurd (kl_cmp e2) c)
    refine lv_goto (tgt := 1215) hx hb dL_law_729 (by decide) ?_
    refine lv_iinc (v := (nI (5 * (t + 1)))) (lv' := [(4, .int (nI (5 * (t + 1)))), (6, .int ((X1_step rph rgr rca rne rap rle rfu rba rru rti rtk rgi rpa n (xs (5 * t + 1))).1)), (5, .int 0), (0, .ref b), (1, .ref h), (2, .ref h2), (3, .ref o)]) hx hb dL_law_1215 hl (k := 6) rfl (nI_add (5 * t) 5) (by decide) rfl (fun ls hl => ?_)
    refine lv_goto (tgt := 23) hx hb dL_law_1218 (by decide) ?_
    refine W.widen (k := 22 + (t + 1)) (n := 170 + 6 * (t + 1)) (by omega) (by omega) ?_
    exact next _ _ _ _ _ _ _ _ _ _ _ _ _ _ _ _ _ _ _ _ _ _ _ _ _ _ _ _ _ _ _ _ _ _ hR1 H locs ls hP hD hS (lv_sub hl [3, 4, 5, 6, 0] rfl)
  · refine kl_bad (rest := []) (As := [.ref h, .int (xs (5 * t + 1)), .ref o]) hC (cx_L_step l hl0 dC dI cI cZ cL h a qph qgr qne qap qle qfu qpc qgd qri qnw qtk qsv qwa qgi qlo qtu n (xs (5 * t + 1)) o og (Rel.qpc hR) (Rel.n8 hR) hT) (vx_cwSW 3 hC.2.2.2.2 gL_law_L_step rfl rfl rfl hdL_step ⟨Nat.le_of_ble_eq_true rfl, Nat.le_of_ble_eq_true rfl⟩) hK hNs hZ hP hD hS hA rfl hl.1 (Nat.le_of_ble_eq_true rfl) dL_law_684 rfl ⟨by show 22 + t + 1 ≤ 1052; omega, by show 170 + 6 * t + 6 ≤ 8398; omega⟩ (fun H locs hP hD hS => ?_)
    obtain ⟨e1, hR1⟩ := R_step_bad qwa qgi qlo qtu rgi rpa rth (xs (5 * t + 1)) ht hR hT
    refine lv_istore (lv' := [(5, .int (X0_step_T n (xs (5 * t + 1)))), (0, .ref b), (1, .ref h), (2, .ref h2), (3, .ref o), (4, .int (nI (5 * t)))]) hx hb dL_law_687 hl (by decide) rfl (fun ls hl => ?_)
    refine lv_aload_n hx hb dL_law_689 rfl (lv_at hl 3 rfl) ?_
    refine lv_aload_n hx hb dL_law_690 rfl (lv_at hl 1 rfl) ?_
    refine lv_iload hx hb dL_law_691 (lv_at hl 5 rfl) ?_
    refine lv_iconst (v := 1) hx hb dL_law_693 (by decide) ?_
    refine lv_iadd hx hb dL_law_694 ?_
    refine kl_sld hx hb hX hbl hS (t := t) (k := 1) (nI_add (5 * t) 1) (by omega) hL dL_law_695 ?_
    refine kf_calliR (wr := (xW cI cZ h a qph qgr qne qap qle qfu qpc qgd qri qnw qtk qsv qwa qgi qlo qtu ++ oW cL o og)) (rest := []) (q0 := 0) hC (c_X1_step l dC dI cI cZ h2 a2 rpt rph rgr rca rne rap rle rfu rba rru rti rtk rsv rgi rpa rth n (xs (5 * t + 1)) (Rel.rpt hR) (Rel.n8 hR) (Rel.mI hR)) (cwV 1 hC.2.2.2.2 gL_law_X1_step rfl rfl rfl hd_X1_step ⟨Nat.le_of_ble_eq_true rfl, Nat.le_of_ble_eq_true rfl⟩) (k_sub3 hK) hP hD hS hA rfl rfl rfl hl.1 (Nat.le_of_ble_eq_true rfl) dL_law_696 rfl ⟨by show (22 + t + 1) ≤ 1052; omega, by show (170 + 6 * t + 6) ≤ 8398; omega⟩ (fun H locs hP hD hS => ?_)
    refine lv_istore (lv' := [(6, .int ((X1_step rph rgr rca rne rap rle rfu rba rru rti rtk rgi rpa n (xs (5 * t + 1))).1)), (5, .int (X0_step_T n (xs (5 * t + 1)))), (0, .ref b), (1, .ref h), (2, .ref h2), (3, .ref o), (4, .int (nI (5 * t)))]) hx hb dL_law_699 hl (by decide) rfl (fun ls hl => ?_)
    refine lv_aload_n hx hb dL_law_701 rfl (lv_at hl 4 rfl) ?_
    refine kf_calliR (wr := (xW cI cZ h a qph qgr qne qap qle qfu qpc qgd qri qnw qtk qsv qwa qgi qlo qtu ++ oW cL o og)) (rest := []) (q0 := 0) hC (c_X1_thrown l dC dI cI cZ h2 a2 rpt rph rgr rca ((X1_step rph rgr rca rne rap rle rfu rba rru rti rtk rgi rpa n (xs (5 * t + 1))).2.1) rap rle rfu rba rru ((X1_step rph rgr rca rne rap rle rfu rba rru rti rtk rgi rpa n (xs (5 * t + 1))).2.2.1) ((X1_step rph rgr rca rne rap rle rfu rba rru rti rtk rgi rpa n (xs (5 * t + 1))).2.2.2.1) rsv ((X1_step rph rgr rca rne rap rle rfu rba rru rti rtk rgi rpa n (xs (5 * t + 1))).2.2.2.2.1) ((X1_step rph rgr rca rne rap rle rfu rba rru rti rtk rgi rpa n (xs (5 * t + 1))).2.2.2.2.2.1) ((X1_step rph rgr rca rne rap rle rfu rba rru rti rtk rgi rpa n (xs (5 * t + 1))).2.2.2.2.2.2)) (cwV 0 hC.2.2.2.2 gL_law_X1_thrown rfl rfl rfl hd_X1_thrown ⟨Nat.le_of_ble_eq_true rfl, Nat.le_of_ble_eq_true rfl⟩) (k_sub3 hK) hP hD hS hA rfl rfl rfl hl.1 (Nat.le_of_ble_eq_true rfl) dL_law_702 rfl ⟨by show (22 + t + 1) ≤ 1052; omega, by show (170 + 6 * t + 6) ≤ 8398; omega⟩ (fun H locs hP hD hS => ?_)
    refine lv_iload hx hb dL_law_705 (lv_at hl 1 rfl) ?_
    refine lv_icmp_eq (tgt := 712) hx hb dL_law_707 (by decide) (fun _ => ?_) (fun c => absurd e1 c)
    refine lv_iload hx hb dL_law_712 (lv_at hl 1 rfl) ?_
    refine lv_if_ne (tgt := 729) hx hb dL_law_714 (by decide) (fun _ => ?_) (fun c => absurd c hT)
    refine lv_goto (tgt := 1215) hx hb dL_law_729 (by decide) ?_
    refine lv_iinc (v := (nI (5 * (t + 1)))) (lv' := [(4, .int (nI (5 * (t + 1)))), (6, .int ((X1_step rph rgr rca rne rap rle rfu rba rru rti rtk rgi rpa n (xs (5 * t + 1))).1)), (5, .int (X0_step_T n (xs (5 * t + 1)))), (0, .ref b), (1, .ref h), (2, .ref h2), (3, .ref o)]) hx hb dL_law_1215 hl (k := 6) rfl (nI_add (5 * t) 5) (by decide) rfl (fun ls hl => ?_)
    refine lv_goto (tgt := 23) hx hb dL_law_1218 (by decide) ?_
    refine W.widen (k := 22 + (t + 1)) (n := 170 + 6 * (t + 1)) (by omega) (by omega) ?_
    exact next _ _ _ _ _ _ _ _ _ _ _ _ _ _ _ _ _ _ _ _ _ _ _ _ _ _ _ _ _ _ _ _ _ _ hR1 H locs ls hP hD hS (lv_sub hl [3, 4, 5, 6, 0] rfl)
set_option maxHeartbeats 4000000 in
set_option maxRecDepth 100000 in
theorem case_time {p : Program} {l : Launch} {e : Env} {s : State} {m : MethodId} {args : Array Value} {below : List Frame} {meth : Method} {c : Code} {Q : State → Prop} {dC : Nat → ClassId} {dI : Nat → Nat → Nat} {cI cZ cL : ClassId} {b L : Nat} {xs : Nat → Int32} {h h2 o : Nat} {a a2 : Nat → Nat} {t n : Nat} {qph : AR} {qgr : AR} {qne : AR} {qap : AR} {qle : AR} {qfu : AR} {qpc : Int32} {qgd : Int32} {qri : Int32} {qnw : Int32} {qtk : Int32} {qsv : Int32} {qwa : AR} {qgi : AR} {qlo : AR} {qtu : AR} {rpt : Int32} {rph : AR} {rgr : AR} {rca : AR} {rne : AR} {rap : AR} {rle : AR} {rfu : AR} {rba : Int32} {rru : Int32} {rti : Int32} {rtk : Int32} {rsv : Int32} {rgi : AR} {rpa : AR} {rth : Int32} {og : Nat → Int64} (hC : CallFix p m c cL_law 7 s args wsL_law RL) (hl0 : l.stackTraces = false) (hX : va_X b L xs s s.heap) (hbl : b < s.heap.size) (hL : L ≤ 2560) (hK : va_K (dC, dI) vwCl (kT3 cI cZ cL) s) (hNs : kN s) (hZ : kZ (fun q : Nat => s.heap.size ≤ q) s s.heap) (ht : t < 512) (htL : 5 * t + 4 < L) (hR : Rel t n qph qgr qne qap qle qfu qpc qgd qri qnw qtk qsv rpt rph rgr rca rne rap rle rfu rba rru rti rtk rsv) (next : (∀ (n : Nat) (qph : AR) (qgr : AR) (qne : AR) (qap : AR) (qle : AR) (qfu : AR) (qpc : Int32) (qgd : Int32) (qri : Int32) (qnw : Int32) (qtk : Int32) (qsv : Int32) (qwa : AR) (qgi : AR) (qlo : AR) (qtu : AR) (rpt : Int32) (rph : AR) (rgr : AR) (rca : AR) (rne : AR) (rap : AR) (rle : AR) (rfu : AR) (rba : Int32) (rru : Int32) (rti : Int32) (rtk : Int32) (rsv : Int32) (rgi : AR) (rpa : AR) (rth : Int32) (og : Nat → Int64), Rel (t + 1) n qph qgr qne qap qle qfu qpc qgd qri qnw qtk qsv rpt rph rgr rca rne rap rle rfu rba rru rti rtk rsv → ∀ (H : Heap) (locs : List Loc) (ls : Array Slot), va_P (dC, dI) vwCl ((xW cI cZ h a qph qgr qne qap qle qfu qpc qgd qri qnw qtk qsv qwa qgi qlo qtu ++ oW cL o og) ++ mW cI cZ h2 a2 rpt rph rgr rca rne rap rle rfu rba rru rti rtk rsv rgi rpa rth) H → va_D (fun q : Nat => s.heap.size ≤ q) ((xW cI cZ h a qph qgr qne qap qle qfu qpc qgd qri qnw qtk qsv qwa qgi qlo qtu ++ oW cL o og) ++ mW cI cZ h2 a2 rpt rph rgr rca rne rap rle rfu rba rru rti rtk rsv rgi rpa rth) → va_S (fun q : Nat => s.heap.size ≤ q) s.heap H locs → lv_has ls 7 [(0, .ref b), (1, .ref h), (2, .ref h2), (3, .ref o), (4, .int (nI (5 * (t + 1))))] → W p l e room_1 s m args below meth c H locs (22 + (t + 1)) (170 + 6 * (t + 1)) Q (F0 m 23 ls []))) {H : Heap} {locs : List Loc} {ls : Array Slot} (hP : va_P (dC, dI) vwCl ((xW cI cZ h a qph qgr qne qap qle qfu qpc qgd qri qnw qtk qsv qwa qgi qlo qtu ++ oW cL o og) ++ mW cI cZ h2 a2 rpt rph rgr rca rne rap rle rfu rba rru rti rtk rsv rgi rpa rth) H) (hD : va_D (fun q : Nat => s.heap.size ≤ q) ((xW cI cZ h a qph qgr qne qap qle qfu qpc qgd qri qnw qtk qsv qwa qgi qlo qtu ++ oW cL o og) ++ mW cI cZ h2 a2 rpt rph rgr rca rne rap rle rfu rba rru rti rtk rsv rgi rpa rth)) (hS : va_S (fun q : Nat => s.heap.size ≤ q) s.heap H locs) (hl : lv_has ls 7 [(0, .ref b), (1, .ref h), (2, .ref h2), (3, .ref o), (4, .int (nI (5 * t)))]) : W p l e room_1 s m args below meth c H locs (22 + t) (170 + 6 * t) Q (F0 m 732 ls []) := by
  obtain ⟨hx, hb, hml, hown, hts⟩ := id hC
  have hA : ∀ q : Nat, s.heap.size ≤ q → (fun q : Nat => s.heap.size ≤ q) q := fun _ h => h
  refine lv_aload_n hx hb dL_law_732 rfl (lv_at hl 1 rfl) ?_
  rw [List.append_assoc] at hP hD
  refine kf_calli (rest := []) (q0 := 0) hC (c_X0_time l dC dI cI cZ h a qph qgr qne qap qle qfu qpc qgd qri qnw qtk qsv qwa qgi qlo qtu) (cwV 0 hC.2.2.2.2 gL_law_X0_time rfl rfl rfl hd_X0_time ⟨Nat.le_of_ble_eq_true rfl, Nat.le_of_ble_eq_true rfl⟩) (k_sub3 hK) hP hD hS hA rfl rfl rfl hl.1 (Nat.le_of_ble_eq_true rfl) dL_law_733 rfl ⟨by show (22 + t) ≤ 1052; omega, by show (170 + 6 * t) ≤ 8398; omega⟩ (fun H locs hP hD hS => ?_)
  rw [← List.append_assoc] at hP hD
  refine lv_aload_n hx hb dL_law_736 rfl (lv_at hl 2 rfl) ?_
  refine kf_calliR (wr := (xW cI cZ h a qph qgr qne qap qle qfu qpc qgd qri qnw qtk qsv qwa qgi qlo qtu ++ oW cL o og)) (rest := [.int (X0_time qnw)]) (q0 := 0) hC (c_X1_time l dC dI cI cZ h2 a2 rpt rph rgr rca rne rap rle rfu rba rru rti rtk rsv rgi rpa rth) (cwV 0 hC.2.2.2.2 gL_law_X1_time rfl rfl rfl hd_X1_time ⟨Nat.le_of_ble_eq_true rfl, Nat.le_of_ble_eq_true rfl⟩) (k_sub3 hK) hP hD hS hA rfl rfl rfl hl.1 (Nat.le_of_ble_eq_true rfl) dL_law_737 rfl ⟨by show (22 + t) ≤ 1052; omega, by show (170 + 6 * t) ≤ 8398; omega⟩ (fun H locs hP hD hS => ?_)
  obtain ⟨e1, hR1⟩ := R_time qwa qgi qlo qtu rgi rpa rth  ht hR
  refine lv_icmp_eq (tgt := 1215) hx hb dL_law_740 (by decide) (fun _ => ?_) (fun c => absurd e1 c)
  refine lv_iinc (v := (nI (5 * (t + 1)))) (lv' := [(4, .int (nI (5 * (t + 1)))), (0, .ref b), (1, .ref h), (2, .ref h2), (3, .ref o)]) hx hb dL_law_1215 hl (k := 4) rfl (nI_add (5 * t) 5) (by decide) rfl (fun ls hl => ?_)
  refine lv_goto (tgt := 23) hx hb dL_law_1218 (by decide) ?_
  refine W.widen (k := 22 + (t + 1)) (n := 170 + 6 * (t + 1)) (by omega) (by omega) ?_
  exact next _ _ _ _ _ _ _ _ _ _ _ _ _ _ _ _ _ _ _ _ _ _ _ _ _ _ _ _ _ _ _ _ _ _ hR1 H locs ls hP hD hS (lv_sub hl [1, 2, 3, 4, 0] rfl)
set_option maxHeartbeats 4000000 in
set_option maxRecDepth 100000 in
theorem case_points {p : Program} {l : Launch} {e : Env} {s : State} {m : MethodId} {args : Array Value} {below : List Frame} {meth : Method} {c : Code} {Q : State → Prop} {dC : Nat → ClassId} {dI : Nat → Nat → Nat} {cI cZ cL : ClassId} {b L : Nat} {xs : Nat → Int32} {h h2 o : Nat} {a a2 : Nat → Nat} {t n : Nat} {qph : AR} {qgr : AR} {qne : AR} {qap : AR} {qle : AR} {qfu : AR} {qpc : Int32} {qgd : Int32} {qri : Int32} {qnw : Int32} {qtk : Int32} {qsv : Int32} {qwa : AR} {qgi : AR} {qlo : AR} {qtu : AR} {rpt : Int32} {rph : AR} {rgr : AR} {rca : AR} {rne : AR} {rap : AR} {rle : AR} {rfu : AR} {rba : Int32} {rru : Int32} {rti : Int32} {rtk : Int32} {rsv : Int32} {rgi : AR} {rpa : AR} {rth : Int32} {og : Nat → Int64} (hC : CallFix p m c cL_law 7 s args wsL_law RL) (hl0 : l.stackTraces = false) (hX : va_X b L xs s s.heap) (hbl : b < s.heap.size) (hL : L ≤ 2560) (hK : va_K (dC, dI) vwCl (kT3 cI cZ cL) s) (hNs : kN s) (hZ : kZ (fun q : Nat => s.heap.size ≤ q) s s.heap) (ht : t < 512) (htL : 5 * t + 4 < L) (hR : Rel t n qph qgr qne qap qle qfu qpc qgd qri qnw qtk qsv rpt rph rgr rca rne rap rle rfu rba rru rti rtk rsv) (next : (∀ (n : Nat) (qph : AR) (qgr : AR) (qne : AR) (qap : AR) (qle : AR) (qfu : AR) (qpc : Int32) (qgd : Int32) (qri : Int32) (qnw : Int32) (qtk : Int32) (qsv : Int32) (qwa : AR) (qgi : AR) (qlo : AR) (qtu : AR) (rpt : Int32) (rph : AR) (rgr : AR) (rca : AR) (rne : AR) (rap : AR) (rle : AR) (rfu : AR) (rba : Int32) (rru : Int32) (rti : Int32) (rtk : Int32) (rsv : Int32) (rgi : AR) (rpa : AR) (rth : Int32) (og : Nat → Int64), Rel (t + 1) n qph qgr qne qap qle qfu qpc qgd qri qnw qtk qsv rpt rph rgr rca rne rap rle rfu rba rru rti rtk rsv → ∀ (H : Heap) (locs : List Loc) (ls : Array Slot), va_P (dC, dI) vwCl ((xW cI cZ h a qph qgr qne qap qle qfu qpc qgd qri qnw qtk qsv qwa qgi qlo qtu ++ oW cL o og) ++ mW cI cZ h2 a2 rpt rph rgr rca rne rap rle rfu rba rru rti rtk rsv rgi rpa rth) H → va_D (fun q : Nat => s.heap.size ≤ q) ((xW cI cZ h a qph qgr qne qap qle qfu qpc qgd qri qnw qtk qsv qwa qgi qlo qtu ++ oW cL o og) ++ mW cI cZ h2 a2 rpt rph rgr rca rne rap rle rfu rba rru rti rtk rsv rgi rpa rth) → va_S (fun q : Nat => s.heap.size ≤ q) s.heap H locs → lv_has ls 7 [(0, .ref b), (1, .ref h), (2, .ref h2), (3, .ref o), (4, .int (nI (5 * (t + 1))))] → W p l e room_1 s m args below meth c H locs (22 + (t + 1)) (170 + 6 * (t + 1)) Q (F0 m 23 ls []))) {H : Heap} {locs : List Loc} {ls : Array Slot} (hP : va_P (dC, dI) vwCl ((xW cI cZ h a qph qgr qne qap qle qfu qpc qgd qri qnw qtk qsv qwa qgi qlo qtu ++ oW cL o og) ++ mW cI cZ h2 a2 rpt rph rgr rca rne rap rle rfu rba rru rti rtk rsv rgi rpa rth) H) (hD : va_D (fun q : Nat => s.heap.size ≤ q) ((xW cI cZ h a qph qgr qne qap qle qfu qpc qgd qri qnw qtk qsv qwa qgi qlo qtu ++ oW cL o og) ++ mW cI cZ h2 a2 rpt rph rgr rca rne rap rle rfu rba rru rti rtk rsv rgi rpa rth)) (hS : va_S (fun q : Nat => s.heap.size ≤ q) s.heap H locs) (hl : lv_has ls 7 [(0, .ref b), (1, .ref h), (2, .ref h2), (3, .ref o), (4, .int (nI (5 * t)))]) : W p l e room_1 s m args below meth c H locs (22 + t) (170 + 6 * t) Q (F0 m 745 ls []) := by
  obtain ⟨hx, hb, hml, hown, hts⟩ := id hC
  have hA : ∀ q : Nat, s.heap.size ≤ q → (fun q : Nat => s.heap.size ≤ q) q := fun _ h => h
  refine lv_aload_n hx hb dL_law_745 rfl (lv_at hl 1 rfl) ?_
  rw [List.append_assoc] at hP hD
  refine kf_calli (rest := []) (q0 := 0) hC (c_X0_points l dC dI cI cZ h a qph qgr qne qap qle qfu qpc qgd qri qnw qtk qsv qwa qgi qlo qtu) (cwV 0 hC.2.2.2.2 gL_law_X0_points rfl rfl rfl hd_X0_points ⟨Nat.le_of_ble_eq_true rfl, Nat.le_of_ble_eq_true rfl⟩) (k_sub3 hK) hP hD hS hA rfl rfl rfl hl.1 (Nat.le_of_ble_eq_true rfl) dL_law_746 rfl ⟨by show (22 + t) ≤ 1052; omega, by show (170 + 6 * t) ≤ 8398; omega⟩ (fun H locs hP hD hS => ?_)
  rw [← List.append_assoc] at hP hD
  refine lv_aload_n hx hb dL_law_749 rfl (lv_at hl 2 rfl) ?_
  refine kf_calliR (wr := (xW cI cZ h a qph qgr qne qap qle qfu qpc qgd qri qnw qtk qsv qwa qgi qlo qtu ++ oW cL o og)) (rest := [.int (X0_points qpc)]) (q0 := 0) hC (c_X1_points l dC dI cI cZ h2 a2 rpt rph rgr rca rne rap rle rfu rba rru rti rtk rsv rgi rpa rth) (cwV 0 hC.2.2.2.2 gL_law_X1_points rfl rfl rfl hd_X1_points ⟨Nat.le_of_ble_eq_true rfl, Nat.le_of_ble_eq_true rfl⟩) (k_sub3 hK) hP hD hS hA rfl rfl rfl hl.1 (Nat.le_of_ble_eq_true rfl) dL_law_750 rfl ⟨by show (22 + t) ≤ 1052; omega, by show (170 + 6 * t) ≤ 8398; omega⟩ (fun H locs hP hD hS => ?_)
  obtain ⟨e1, hR1⟩ := R_points qwa qgi qlo qtu rgi rpa rth  ht hR
  refine lv_icmp_eq (tgt := 1215) hx hb dL_law_753 (by decide) (fun _ => ?_) (fun c => absurd e1 c)
  refine lv_iinc (v := (nI (5 * (t + 1)))) (lv' := [(4, .int (nI (5 * (t + 1)))), (0, .ref b), (1, .ref h), (2, .ref h2), (3, .ref o)]) hx hb dL_law_1215 hl (k := 4) rfl (nI_add (5 * t) 5) (by decide) rfl (fun ls hl => ?_)
  refine lv_goto (tgt := 23) hx hb dL_law_1218 (by decide) ?_
  refine W.widen (k := 22 + (t + 1)) (n := 170 + 6 * (t + 1)) (by omega) (by omega) ?_
  exact next _ _ _ _ _ _ _ _ _ _ _ _ _ _ _ _ _ _ _ _ _ _ _ _ _ _ _ _ _ _ _ _ _ _ hR1 H locs ls hP hD hS (lv_sub hl [1, 2, 3, 4, 0] rfl)
set_option maxHeartbeats 4000000 in
set_option maxRecDepth 100000 in
theorem case_taken {p : Program} {l : Launch} {e : Env} {s : State} {m : MethodId} {args : Array Value} {below : List Frame} {meth : Method} {c : Code} {Q : State → Prop} {dC : Nat → ClassId} {dI : Nat → Nat → Nat} {cI cZ cL : ClassId} {b L : Nat} {xs : Nat → Int32} {h h2 o : Nat} {a a2 : Nat → Nat} {t n : Nat} {qph : AR} {qgr : AR} {qne : AR} {qap : AR} {qle : AR} {qfu : AR} {qpc : Int32} {qgd : Int32} {qri : Int32} {qnw : Int32} {qtk : Int32} {qsv : Int32} {qwa : AR} {qgi : AR} {qlo : AR} {qtu : AR} {rpt : Int32} {rph : AR} {rgr : AR} {rca : AR} {rne : AR} {rap : AR} {rle : AR} {rfu : AR} {rba : Int32} {rru : Int32} {rti : Int32} {rtk : Int32} {rsv : Int32} {rgi : AR} {rpa : AR} {rth : Int32} {og : Nat → Int64} (hC : CallFix p m c cL_law 7 s args wsL_law RL) (hl0 : l.stackTraces = false) (hX : va_X b L xs s s.heap) (hbl : b < s.heap.size) (hL : L ≤ 2560) (hK : va_K (dC, dI) vwCl (kT3 cI cZ cL) s) (hNs : kN s) (hZ : kZ (fun q : Nat => s.heap.size ≤ q) s s.heap) (ht : t < 512) (htL : 5 * t + 4 < L) (hR : Rel t n qph qgr qne qap qle qfu qpc qgd qri qnw qtk qsv rpt rph rgr rca rne rap rle rfu rba rru rti rtk rsv) (next : (∀ (n : Nat) (qph : AR) (qgr : AR) (qne : AR) (qap : AR) (qle : AR) (qfu : AR) (qpc : Int32) (qgd : Int32) (qri : Int32) (qnw : Int32) (qtk : Int32) (qsv : Int32) (qwa : AR) (qgi : AR) (qlo : AR) (qtu : AR) (rpt : Int32) (rph : AR) (rgr : AR) (rca : AR) (rne : AR) (rap : AR) (rle : AR) (rfu : AR) (rba : Int32) (rru : Int32) (rti : Int32) (rtk : Int32) (rsv : Int32) (rgi : AR) (rpa : AR) (rth : Int32) (og : Nat → Int64), Rel (t + 1) n qph qgr qne qap qle qfu qpc qgd qri qnw qtk qsv rpt rph rgr rca rne rap rle rfu rba rru rti rtk rsv → ∀ (H : Heap) (locs : List Loc) (ls : Array Slot), va_P (dC, dI) vwCl ((xW cI cZ h a qph qgr qne qap qle qfu qpc qgd qri qnw qtk qsv qwa qgi qlo qtu ++ oW cL o og) ++ mW cI cZ h2 a2 rpt rph rgr rca rne rap rle rfu rba rru rti rtk rsv rgi rpa rth) H → va_D (fun q : Nat => s.heap.size ≤ q) ((xW cI cZ h a qph qgr qne qap qle qfu qpc qgd qri qnw qtk qsv qwa qgi qlo qtu ++ oW cL o og) ++ mW cI cZ h2 a2 rpt rph rgr rca rne rap rle rfu rba rru rti rtk rsv rgi rpa rth) → va_S (fun q : Nat => s.heap.size ≤ q) s.heap H locs → lv_has ls 7 [(0, .ref b), (1, .ref h), (2, .ref h2), (3, .ref o), (4, .int (nI (5 * (t + 1))))] → W p l e room_1 s m args below meth c H locs (22 + (t + 1)) (170 + 6 * (t + 1)) Q (F0 m 23 ls []))) {H : Heap} {locs : List Loc} {ls : Array Slot} (hP : va_P (dC, dI) vwCl ((xW cI cZ h a qph qgr qne qap qle qfu qpc qgd qri qnw qtk qsv qwa qgi qlo qtu ++ oW cL o og) ++ mW cI cZ h2 a2 rpt rph rgr rca rne rap rle rfu rba rru rti rtk rsv rgi rpa rth) H) (hD : va_D (fun q : Nat => s.heap.size ≤ q) ((xW cI cZ h a qph qgr qne qap qle qfu qpc qgd qri qnw qtk qsv qwa qgi qlo qtu ++ oW cL o og) ++ mW cI cZ h2 a2 rpt rph rgr rca rne rap rle rfu rba rru rti rtk rsv rgi rpa rth)) (hS : va_S (fun q : Nat => s.heap.size ≤ q) s.heap H locs) (hl : lv_has ls 7 [(0, .ref b), (1, .ref h), (2, .ref h2), (3, .ref o), (4, .int (nI (5 * t)))]) : W p l e room_1 s m args below meth c H locs (22 + t) (170 + 6 * t) Q (F0 m 758 ls []) := by
  obtain ⟨hx, hb, hml, hown, hts⟩ := id hC
  have hA : ∀ q : Nat, s.heap.size ≤ q → (fun q : Nat => s.heap.size ≤ q) q := fun _ h => h
  refine lv_aload_n hx hb dL_law_758 rfl (lv_at hl 1 rfl) ?_
  rw [List.append_assoc] at hP hD
  refine kf_calli (rest := []) (q0 := 0) hC (c_X0_taken l dC dI cI cZ h a qph qgr qne qap qle qfu qpc qgd qri qnw qtk qsv qwa qgi qlo qtu) (cwV 0 hC.2.2.2.2 gL_law_X0_taken rfl rfl rfl hd_X0_taken ⟨Nat.le_of_ble_eq_true rfl, Nat.le_of_ble_eq_true rfl⟩) (k_sub3 hK) hP hD hS hA rfl rfl rfl hl.1 (Nat.le_of_ble_eq_true rfl) dL_law_759 rfl ⟨by show (22 + t) ≤ 1052; omega, by show (170 + 6 * t) ≤ 8398; omega⟩ (fun H locs hP hD hS => ?_)
  rw [← List.append_assoc] at hP hD
  refine lv_aload_n hx hb dL_law_762 rfl (lv_at hl 2 rfl) ?_
  refine kf_calliR (wr := (xW cI cZ h a qph qgr qne qap qle qfu qpc qgd qri qnw qtk qsv qwa qgi qlo qtu ++ oW cL o og)) (rest := [.int (X0_taken qtk)]) (q0 := 0) hC (c_X1_taken l dC dI cI cZ h2 a2 rpt rph rgr rca rne rap rle rfu rba rru rti rtk rsv rgi rpa rth) (cwV 0 hC.2.2.2.2 gL_law_X1_taken rfl rfl rfl hd_X1_taken ⟨Nat.le_of_ble_eq_true rfl, Nat.le_of_ble_eq_true rfl⟩) (k_sub3 hK) hP hD hS hA rfl rfl rfl hl.1 (Nat.le_of_ble_eq_true rfl) dL_law_763 rfl ⟨by show (22 + t) ≤ 1052; omega, by show (170 + 6 * t) ≤ 8398; omega⟩ (fun H locs hP hD hS => ?_)
  obtain ⟨e1, hR1⟩ := R_taken qwa qgi qlo qtu rgi rpa rth  ht hR
  refine lv_icmp_eq (tgt := 1215) hx hb dL_law_766 (by decide) (fun _ => ?_) (fun c => absurd e1 c)
  refine lv_iinc (v := (nI (5 * (t + 1)))) (lv' := [(4, .int (nI (5 * (t + 1)))), (0, .ref b), (1, .ref h), (2, .ref h2), (3, .ref o)]) hx hb dL_law_1215 hl (k := 4) rfl (nI_add (5 * t) 5) (by decide) rfl (fun ls hl => ?_)
  refine lv_goto (tgt := 23) hx hb dL_law_1218 (by decide) ?_
  refine W.widen (k := 22 + (t + 1)) (n := 170 + 6 * (t + 1)) (by omega) (by omega) ?_
  exact next _ _ _ _ _ _ _ _ _ _ _ _ _ _ _ _ _ _ _ _ _ _ _ _ _ _ _ _ _ _ _ _ _ _ hR1 H locs ls hP hD hS (lv_sub hl [1, 2, 3, 4, 0] rfl)
