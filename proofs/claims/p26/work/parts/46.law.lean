set_option maxHeartbeats 4000000 in
set_option maxRecDepth 100000 in
theorem law_c {p : Program} {l : Launch} {e : Env} {s : State} {mi : MethodId} {args : Array Value} {below : List Frame} {meth : Method} {c : Code} {Q : State → Prop} {dC : Nat → ClassId} {dI : Nat → Nat → Nat} {cI cZ : ClassId} {b L : Nat} {xs : Nat → Int32} {h : Nat} {a : Nat → Nat} (hC : CallFix p mi c cL_law 6 s args wsL_law RL) (hl0 : l.stackTraces = false) (hX : va_X b L xs s s.heap) (hbl : b < s.heap.size) (hL : L ≤ 260) (hK : va_K (dC, dI) vwCl (kT cI cZ) s) (hNs : kN s) (hZ : kZ (fun q : Nat => s.heap.size ≤ q) s s.heap) {k m n q : Nat} {th : Int32} (hk : k < 30) (hm : m < 33554432) (h1 : 1 ≤ n) (next : (∀ (qph : AR) (qgr : AR) (qne : AR) (qap : AR) (qle : AR) (qfu : AR) (qpc : Int32) (qgd : Int32) (qri : Int32) (qnw : Int32) (qtk : Int32) (qsv : Int32) (qwa : AR) (qgi : AR) (qlo : AR) (qtu : AR), Iv (5 * (k + 1)) n qph qgr qne qap qle qfu qpc qgd qri qnw → ∀ (H : Heap) (locs : List Loc) (ls : Array Slot), va_P (dC, dI) vwCl (xW cI cZ h a qph qgr qne qap qle qfu qpc qgd qri qnw qtk qsv qwa qgi qlo qtu) H → va_D (fun q : Nat => s.heap.size ≤ q) (xW cI cZ h a qph qgr qne qap qle qfu qpc qgd qri qnw qtk qsv qwa qgi qlo qtu) → va_S (fun q : Nat => s.heap.size ≤ q) s.heap H locs → lv_has ls 6 [(2, .int (nI (k + 1))), (0, .ref b), (1, .ref h)] → W p l e room_1 s mi args below meth c H locs (511 + 93 * (k + 1)) (3146 + 558 * (k + 1)) Q (F0 mi 30 ls []))) : ∀ (qph : AR) (qgr : AR) (qne : AR) (qap : AR) (qle : AR) (qfu : AR) (qpc : Int32) (qgd : Int32) (qri : Int32) (qnw : Int32) (qtk : Int32) (qsv : Int32) (qwa : AR) (qgi : AR) (qlo : AR) (qtu : AR), Iv (5 * k + 4) n qph qgr qne qap qle qfu qpc qgd qri qnw → ∀ (H : Heap) (locs : List Loc) (ls : Array Slot), va_P (dC, dI) vwCl (xW cI cZ h a qph qgr qne qap qle qfu qpc qgd qri qnw qtk qsv qwa qgi qlo qtu) H → va_D (fun q : Nat => s.heap.size ≤ q) (xW cI cZ h a qph qgr qne qap qle qfu qpc qgd qri qnw qtk qsv qwa qgi qlo qtu) → va_S (fun q : Nat => s.heap.size ≤ q) s.heap H locs → lv_has ls 6 [(5, .int th), (4, .int (nI q)), (3, .int (nI m)), (2, .int (nI k)), (0, .ref b), (1, .ref h)] → W p l e room_1 s mi args below meth c H locs (511 + 93 * k + 1) (3146 + 558 * k + 6) Q (F0 mi 194 ls []) := by
  obtain ⟨hx, hb, hml, hown, hts⟩ := id hC
  have hA : ∀ q : Nat, s.heap.size ≤ q → (fun q : Nat => s.heap.size ≤ q) q := fun _ h => h
  intro qph qgr qne qap qle qfu qpc qgd qri qnw qtk qsv qwa qgi qlo qtu I H locs ls hP hD hS hl
  refine lv_iload_n hx hb dL_law_194 rfl (lv_at hl 3 rfl) ?_
  refine lv_iconst (v := 5) hx hb dL_law_195 (by decide) ?_
  refine lv_irem hx hb dL_law_196 (by decide) ?_
  rw [lw_rem (a := k) (d := 5) (D := 5) rfl (by omega) (by decide) (by decide)]
  refine lv_if_ne (tgt := 221) hx hb dL_law_197 (by decide) (fun _ => ?_) (fun _ => ?_)
  · refine lv_iinc (v := nI (k + 1)) (lv' := [(2, .int (nI (k + 1))), (5, .int th), (4, .int (nI q)), (3, .int (nI m)), (0, .ref b), (1, .ref h)]) hx hb dL_law_221 hl (k := 3) rfl (nI_add k 1) (by decide) rfl (fun ls hl => ?_)
    refine lv_goto (tgt := 30) hx hb dL_law_224 (by decide) ?_
    refine W.widen (k := 511 + 93 * (k + 1)) (n := 3146 + 558 * (k + 1)) (by omega) (by omega) ?_
    exact next _ _ _ _ _ _ _ _ _ _ _ _ _ _ _ _ (Iv.mono (by omega) I) H locs ls hP hD hS (lv_sub hl [0, 4, 5] rfl)
  · refine lv_aload_n hx hb dL_law_200 rfl (lv_at hl 5 rfl) ?_
    refine lk_call (rest := []) (As := [.ref h]) hC (c_L_refuses l hl0 dC dI cI cZ h a qph qgr qne qap qle qfu qpc qgd qri qnw qtk qsv qwa qgi qlo qtu n I.pc I.n8 h1 _ (fun wa gi lo tu => ob_held (by omega) I wa gi lo tu qwa qgi qlo qtu)) (va_cwS 1 hts gL_law_L_refuses rfl rfl rfl hd_L_refuses ⟨Nat.le_of_ble_eq_true rfl, Nat.le_of_ble_eq_true rfl⟩) hK hNs hZ hP hD hS hA rfl hl.1 (Nat.le_of_ble_eq_true rfl) dL_law_201 rfl ⟨by show 511 + 93 * k + 1 + 92 ≤ 674541; omega, by show 3146 + 558 * k + 6 + 552 ≤ 7078002; omega⟩ (fun w2 H locs hB hP hD hS => ?_)
    obtain ⟨qwa, qgi, qlo, qtu, rfl⟩ := hB
    refine lv_if_eq (tgt := 219) hx hb dL_law_204 (by decide) (fun c => absurd c (by decide)) (fun _ => ?_)
    refine lv_aload_n hx hb dL_law_207 rfl (lv_at hl 5 rfl) ?_
    refine lv_iconst (v := 1) hx hb dL_law_208 (by decide) ?_
    refine lv_iload_n hx hb dL_law_209 rfl (lv_at hl 2 rfl) ?_
    refine lv_iconst (v := 4) hx hb dL_law_210 (by decide) ?_
    refine lv_irem hx hb dL_law_211 (by decide) ?_
    rw [lw_rem (a := m) (d := 4) (D := 4) rfl (by omega) (by decide) (by decide)]
    refine lv_iadd hx hb dL_law_212 ?_
    rw [show (1 : Int32) + nI (m % 4) = nI (1 + m % 4) from nI_add 1 (m % 4)]
    have hm4 : m % 4 < 4 := Nat.mod_lt _ (by decide)
    have hst := lw_step (n := n) hm4
    have hnn := step_nn (qtk := qtk) (by omega) I hst qwa qgi qlo qtu
    have I4 := Iv.step (qtk := qtk) (by omega) I hst qwa qgi qlo qtu
    refine lk_park (rest := []) (As := [.int (nI (1 + m % 4))]) (v := _) hC (c_X0_step l dC dI cI cZ h a qph qgr qne qap qle qfu qpc qgd qri qnw qtk qsv qwa qgi qlo qtu n (nI (1 + m % 4)) I.pc I.n8 hst) rfl (cwV 1 hts gL_law_X0_step rfl rfl rfl hd_X0_step ⟨Nat.le_of_ble_eq_true rfl, Nat.le_of_ble_eq_true rfl⟩) hK hP hD hS hA rfl rfl hl.1 (Nat.le_of_ble_eq_true rfl) dL_law_213 rfl ⟨by show 511 + 93 * k + 93 ≤ 674541; omega, by show 3146 + 558 * k + 558 ≤ 7078002; omega⟩ (fun qwa qgi qlo qtu H locs hP hD hS => ?_)
    refine lv_if_ge (tgt := 221) hx hb dL_law_216 (by decide) (fun _ => ?_) (fun c => absurd (Int32.not_lt.mp hnn) c)
    have I := I4
    refine lv_iinc (v := nI (k + 1)) (lv' := [(2, .int (nI (k + 1))), (5, .int th), (4, .int (nI q)), (3, .int (nI m)), (0, .ref b), (1, .ref h)]) hx hb dL_law_221 hl (k := 3) rfl (nI_add k 1) (by decide) rfl (fun ls hl => ?_)
    refine lv_goto (tgt := 30) hx hb dL_law_224 (by decide) ?_
    refine W.widen (k := 511 + 93 * (k + 1)) (n := 3146 + 558 * (k + 1)) (by omega) (by omega) ?_
    exact next _ _ _ _ _ _ _ _ _ _ _ _ _ _ _ _ (Iv.mono (by omega) I) H locs ls hP hD hS (lv_sub hl [0, 4, 5] rfl)
set_option maxHeartbeats 4000000 in
set_option maxRecDepth 100000 in
theorem law_b {p : Program} {l : Launch} {e : Env} {s : State} {mi : MethodId} {args : Array Value} {below : List Frame} {meth : Method} {c : Code} {Q : State → Prop} {dC : Nat → ClassId} {dI : Nat → Nat → Nat} {cI cZ : ClassId} {b L : Nat} {xs : Nat → Int32} {h : Nat} {a : Nat → Nat} (hC : CallFix p mi c cL_law 6 s args wsL_law RL) (hl0 : l.stackTraces = false) (hX : va_X b L xs s s.heap) (hbl : b < s.heap.size) (hL : L ≤ 260) (hK : va_K (dC, dI) vwCl (kT cI cZ) s) (hNs : kN s) (hZ : kZ (fun q : Nat => s.heap.size ≤ q) s s.heap) {k m n q : Nat} {th : Int32} (hk : k < 30) (hm : m < 33554432) (h1 : 1 ≤ n) (h8 : n ≤ 8) (hq : q < n) (next : (∀ (qph : AR) (qgr : AR) (qne : AR) (qap : AR) (qle : AR) (qfu : AR) (qpc : Int32) (qgd : Int32) (qri : Int32) (qnw : Int32) (qtk : Int32) (qsv : Int32) (qwa : AR) (qgi : AR) (qlo : AR) (qtu : AR), Iv (5 * (k + 1)) n qph qgr qne qap qle qfu qpc qgd qri qnw → ∀ (H : Heap) (locs : List Loc) (ls : Array Slot), va_P (dC, dI) vwCl (xW cI cZ h a qph qgr qne qap qle qfu qpc qgd qri qnw qtk qsv qwa qgi qlo qtu) H → va_D (fun q : Nat => s.heap.size ≤ q) (xW cI cZ h a qph qgr qne qap qle qfu qpc qgd qri qnw qtk qsv qwa qgi qlo qtu) → va_S (fun q : Nat => s.heap.size ≤ q) s.heap H locs → lv_has ls 6 [(2, .int (nI (k + 1))), (0, .ref b), (1, .ref h)] → W p l e room_1 s mi args below meth c H locs (511 + 93 * (k + 1)) (3146 + 558 * (k + 1)) Q (F0 mi 30 ls []))) : ∀ (qph : AR) (qgr : AR) (qne : AR) (qap : AR) (qle : AR) (qfu : AR) (qpc : Int32) (qgd : Int32) (qri : Int32) (qnw : Int32) (qtk : Int32) (qsv : Int32) (qwa : AR) (qgi : AR) (qlo : AR) (qtu : AR), Iv (5 * k + 2) n qph qgr qne qap qle qfu qpc qgd qri qnw → 0 ≤ (qne q).toInt → ∀ (H : Heap) (locs : List Loc) (ls : Array Slot), va_P (dC, dI) vwCl (xW cI cZ h a qph qgr qne qap qle qfu qpc qgd qri qnw qtk qsv qwa qgi qlo qtu) H → va_D (fun q : Nat => s.heap.size ≤ q) (xW cI cZ h a qph qgr qne qap qle qfu qpc qgd qri qnw qtk qsv qwa qgi qlo qtu) → va_S (fun q : Nat => s.heap.size ≤ q) s.heap H locs → lv_has ls 6 [(5, .int th), (4, .int (nI q)), (3, .int (nI m)), (2, .int (nI k)), (0, .ref b), (1, .ref h)] → W p l e room_1 s mi args below meth c H locs (511 + 93 * k + 1) (3146 + 558 * k + 6) Q (F0 mi 150 ls []) := by
  obtain ⟨hx, hb, hml, hown, hts⟩ := id hC
  have hA : ∀ q : Nat, s.heap.size ≤ q → (fun q : Nat => s.heap.size ≤ q) q := fun _ h => h
  intro qph qgr qne qap qle qfu qpc qgd qri qnw qtk qsv qwa qgi qlo qtu I hcar H locs ls hP hD hS hl
  have hto := lw_take I.pc I.n8 hq hcar
  refine lv_aload_n hx hb dL_law_150 rfl (lv_at hl 5 rfl) ?_
  refine lv_iconst (v := 5) hx hb dL_law_151 (by decide) ?_
  refine lv_iload hx hb dL_law_152 (lv_at hl 1 rfl) ?_
  refine lv_iconst (v := 0) hx hb dL_law_154 (by decide) ?_
  refine lv_iconst (v := 0) hx hb dL_law_155 (by decide) ?_
  refine lv_iconst (v := 0) hx hb dL_law_156 (by decide) ?_
  refine lk_callH (rest := []) (As := [.ref h, .int 5, .int (nI q), .int 0, .int 0, .int 0]) hC (a_takeOut l dC dI cI cZ h a qph qgr qne qap qle qfu qpc qgd qri qnw qtk qsv qwa qgi qlo qtu n (nI q) 0 0 0 I.pc I.n8 hto) (vx_cwSW 6 hts gL_law_L_act rfl rfl rfl hd_L_act ⟨Nat.le_of_ble_eq_true rfl, Nat.le_of_ble_eq_true rfl⟩) hK hNs hZ hP hD hS hA rfl hl.1 (Nat.le_of_ble_eq_true rfl) dL_law_157 rfl ⟨by show 511 + 93 * k + 1 + 0 ≤ 674541; omega, by show 3146 + 558 * k + 6 + 0 ≤ 7078002; omega⟩ (fun w2 H locs hB hP hD hS => ?_)
  subst hB
  rw [X0_takeOut_v hto, ck (by omega)]
  have hnl : ¬ qne q < 0 := by rw [i_lt, i_0]; omega
  refine lv_if_lt (tgt := 219) hx hb dL_law_160 (by decide) (fun c => absurd c hnl) (fun _ => ?_)
  have I := Iv.takeOut (qsv := qsv) (by omega) I hto
  have hne : (X0_takeOut qne qpc qsv n (nI q)).2.1 q = -1 := by rw [X0_takeOut_ne hto, ck (by omega), upd_at]
  generalize (X0_takeOut qne qpc qsv n (nI q)).2.1 = qne at hP hD I hne
  generalize (X0_takeOut _ qpc qsv n (nI q)).2.2 = qsv at hP hD
  have ha : m % 300 < 300 := Nat.mod_lt _ (by decide)
  have hb2 : m % 32 < 32 := Nat.mod_lt _ (by decide)
  have hc2 : m % 20 < 20 := Nat.mod_lt _ (by decide)
  refine lv_aload_n hx hb dL_law_163 rfl (lv_at hl 5 rfl) ?_
  refine lv_iload hx hb dL_law_164 (lv_at hl 1 rfl) ?_
  refine lv_iconst (v := 1) hx hb dL_law_166 (by decide) ?_
  refine lv_iload_n hx hb dL_law_167 rfl (lv_at hl 2 rfl) ?_
  refine lv_sipush (v := 300) hx hb dL_law_168 (by decide) ?_
  refine lv_irem hx hb dL_law_171 (by decide) ?_
  rw [lw_rem (a := m) (d := 300) (D := 300) rfl (by omega) (by decide) (by decide)]
  refine lv_iadd hx hb dL_law_172 ?_
  rw [show (1 : Int32) + nI (m % 300) = nI (1 + m % 300) from nI_add 1 (m % 300)]
  refine lv_iconst (v := 1) hx hb dL_law_173 (by decide) ?_
  refine lv_iload_n hx hb dL_law_174 rfl (lv_at hl 2 rfl) ?_
  refine lv_bipush (v := 32) hx hb dL_law_175 (by decide) ?_
  refine lv_irem hx hb dL_law_177 (by decide) ?_
  rw [lw_rem (a := m) (d := 32) (D := 32) rfl (by omega) (by decide) (by decide)]
  refine lv_iadd hx hb dL_law_178 ?_
  rw [show (1 : Int32) + nI (m % 32) = nI (1 + m % 32) from nI_add 1 (m % 32)]
  refine lv_iconst (v := 1) hx hb dL_law_179 (by decide) ?_
  refine lv_iload_n hx hb dL_law_180 rfl (lv_at hl 2 rfl) ?_
  refine lv_bipush (v := 20) hx hb dL_law_181 (by decide) ?_
  refine lv_irem hx hb dL_law_183 (by decide) ?_
  rw [lw_rem (a := m) (d := 20) (D := 20) rfl (by omega) (by decide) (by decide)]
  refine lv_iadd hx hb dL_law_184 ?_
  rw [show (1 : Int32) + nI (m % 20) = nI (1 + m % 20) from nI_add 1 (m % 20)]
  have hpl : X0_plugIn_T qne qpc n (nI q) (nI (1 + m % 300)) (nI (1 + m % 32)) (nI (1 + m % 20)) = 0 := by rw [lw_plug I.pc I.n8 hq (by omega) hb2 (by omega), if_pos hne]
  refine lk_park (rest := []) (As := [.int (nI q), .int (nI (1 + m % 300)), .int (nI (1 + m % 32)), .int (nI (1 + m % 20))]) (v := _) hC (c_X0_plugIn l dC dI cI cZ h a qph qgr qne qap qle qfu qpc qgd qri qnw qtk qsv qwa qgi qlo qtu n (nI q) (nI (1 + m % 300)) (nI (1 + m % 32)) (nI (1 + m % 20)) I.pc I.n8 hpl) rfl (cwV 4 hts gL_law_X0_plugIn rfl rfl rfl hd_X0_plugIn ⟨Nat.le_of_ble_eq_true rfl, Nat.le_of_ble_eq_true rfl⟩) hK hP hD hS hA rfl rfl hl.1 (Nat.le_of_ble_eq_true rfl) dL_law_185 rfl ⟨by show 511 + 93 * k + 1 ≤ 674541; omega, by show 3146 + 558 * k + 6 ≤ 7078002; omega⟩ (fun qwa qgi qlo qtu H locs hP hD hS => ?_)
  have hge := (lw_plug_ge I (by omega) hq (by omega) hb2 (by omega) hpl).1
  refine lv_sipush (v := (-300)) hx hb dL_law_188 (by decide) ?_
  have hn3 : ¬ (X0_plugIn qph qgr qne qap qle qpc qnw n (nI q) (nI (1 + m % 300)) (nI (1 + m % 32)) (nI (1 + m % 20))).1 < -300 := by rw [i_lt, show (-300 : Int32).toInt = -300 from rfl]; omega
  refine lv_icmp_lt (tgt := 219) hx hb dL_law_191 (by decide) (fun c => absurd c hn3) (fun _ => ?_)
  have I := Iv.plugIn (by omega) I hpl
  exact law_c hC hl0 hX hbl hL hK hNs hZ hk hm h1 next _ _ _ _ _ _ _ _ _ _ _ _ _ _ _ _ I H locs ls hP hD hS hl
set_option maxHeartbeats 4000000 in
set_option maxRecDepth 100000 in
theorem law_a {p : Program} {l : Launch} {e : Env} {s : State} {mi : MethodId} {args : Array Value} {below : List Frame} {meth : Method} {c : Code} {Q : State → Prop} {dC : Nat → ClassId} {dI : Nat → Nat → Nat} {cI cZ : ClassId} {b L : Nat} {xs : Nat → Int32} {h : Nat} {a : Nat → Nat} (hC : CallFix p mi c cL_law 6 s args wsL_law RL) (hl0 : l.stackTraces = false) (hX : va_X b L xs s s.heap) (hbl : b < s.heap.size) (hL : L ≤ 260) (hK : va_K (dC, dI) vwCl (kT cI cZ) s) (hNs : kN s) (hZ : kZ (fun q : Nat => s.heap.size ≤ q) s s.heap) {k m n : Nat} (hk : k < 30) (hm : m < 33554432) (h1 : 1 ≤ n) (h8 : n ≤ 8) (next : (∀ (qph : AR) (qgr : AR) (qne : AR) (qap : AR) (qle : AR) (qfu : AR) (qpc : Int32) (qgd : Int32) (qri : Int32) (qnw : Int32) (qtk : Int32) (qsv : Int32) (qwa : AR) (qgi : AR) (qlo : AR) (qtu : AR), Iv (5 * (k + 1)) n qph qgr qne qap qle qfu qpc qgd qri qnw → ∀ (H : Heap) (locs : List Loc) (ls : Array Slot), va_P (dC, dI) vwCl (xW cI cZ h a qph qgr qne qap qle qfu qpc qgd qri qnw qtk qsv qwa qgi qlo qtu) H → va_D (fun q : Nat => s.heap.size ≤ q) (xW cI cZ h a qph qgr qne qap qle qfu qpc qgd qri qnw qtk qsv qwa qgi qlo qtu) → va_S (fun q : Nat => s.heap.size ≤ q) s.heap H locs → lv_has ls 6 [(2, .int (nI (k + 1))), (0, .ref b), (1, .ref h)] → W p l e room_1 s mi args below meth c H locs (511 + 93 * (k + 1)) (3146 + 558 * (k + 1)) Q (F0 mi 30 ls []))) : ∀ (qph : AR) (qgr : AR) (qne : AR) (qap : AR) (qle : AR) (qfu : AR) (qpc : Int32) (qgd : Int32) (qri : Int32) (qnw : Int32) (qtk : Int32) (qsv : Int32) (qwa : AR) (qgi : AR) (qlo : AR) (qtu : AR), Iv (5 * k + 1) n qph qgr qne qap qle qfu qpc qgd qri qnw → ∀ (H : Heap) (locs : List Loc) (ls : Array Slot), va_P (dC, dI) vwCl (xW cI cZ h a qph qgr qne qap qle qfu qpc qgd qri qnw qtk qsv qwa qgi qlo qtu) H → va_D (fun q : Nat => s.heap.size ≤ q) (xW cI cZ h a qph qgr qne qap qle qfu qpc qgd qri qnw qtk qsv qwa qgi qlo qtu) → va_S (fun q : Nat => s.heap.size ≤ q) s.heap H locs → lv_has ls 6 [(3, .int (nI m)), (2, .int (nI k)), (0, .ref b), (1, .ref h)] → W p l e room_1 s mi args below meth c H locs (511 + 93 * k + 0) (3146 + 558 * k + 0) Q (F0 mi 84 ls []) := by
  obtain ⟨hx, hb, hml, hown, hts⟩ := id hC
  have hA : ∀ q : Nat, s.heap.size ≤ q → (fun q : Nat => s.heap.size ≤ q) q := fun _ h => h
  intro qph qgr qne qap qle qfu qpc qgd qri qnw qtk qsv qwa qgi qlo qtu I H locs ls hP hD hS hl
  refine lv_iload_n hx hb dL_law_84 rfl (lv_at hl 0 rfl) ?_
  refine lv_aload_n hx hb dL_law_85 rfl (lv_at hl 3 rfl) ?_
  refine lk_park (rest := [.int (nI m)]) (As := []) (v := qpc) hC (c_X0_points l dC dI cI cZ h a qph qgr qne qap qle qfu qpc qgd qri qnw qtk qsv qwa qgi qlo qtu) rfl (cwV 0 hts gL_law_X0_points rfl rfl rfl hd_X0_points ⟨Nat.le_of_ble_eq_true rfl, Nat.le_of_ble_eq_true rfl⟩) hK hP hD hS hA rfl rfl hl.1 (Nat.le_of_ble_eq_true rfl) dL_law_86 rfl ⟨by show 511 + 93 * k + 0 ≤ 674541; omega, by show 3146 + 558 * k + 0 ≤ 7078002; omega⟩ (fun qwa qgi qlo qtu H locs hP hD hS => ?_)
  have hq0 : ¬ qpc = 0 := fun x => by have := I.pc; rw [x] at this; have e := congrArg Int32.toInt this; rw [nI_toInt (by omega), i_0] at e; omega
  refine lv_irem hx hb dL_law_89 hq0 ?_
  rw [lw_rem (a := m) (d := n) I.pc (by omega) h1 (by omega)]
  obtain ⟨q, hqe⟩ : ∃ q, q = m % n := ⟨_, rfl⟩
  rw [← hqe]
  have hq : q < n := by rw [hqe]; exact Nat.mod_lt _ h1
  refine lv_istore (lv' := [(4, .int (nI q)), (3, .int (nI m)), (2, .int (nI k)), (0, .ref b), (1, .ref h)]) hx hb dL_law_90 hl (by decide) rfl (fun ls hl => ?_)
  have hnd := lw_need (qne := qne) I.pc I.n8 hq
  refine lv_aload_n hx hb dL_law_92 rfl (lv_at hl 4 rfl) ?_
  refine lv_iload hx hb dL_law_93 (lv_at hl 0 rfl) ?_
  refine lk_park (rest := []) (As := [.int (nI q)]) (v := (qne q)) hC (c_X0_need l dC dI cI cZ h a qph qgr qne qap qle qfu qpc qgd qri qnw qtk qsv qwa qgi qlo qtu n (nI q) I.pc I.n8 hnd.1) hnd.2 (cwV 1 hts gL_law_X0_need rfl rfl rfl hd_X0_need ⟨Nat.le_of_ble_eq_true rfl, Nat.le_of_ble_eq_true rfl⟩) hK hP hD hS hA rfl rfl hl.1 (Nat.le_of_ble_eq_true rfl) dL_law_95 rfl ⟨by show 511 + 93 * k + 0 ≤ 674541; omega, by show 3146 + 558 * k + 0 ≤ 7078002; omega⟩ (fun qwa qgi qlo qtu H locs hP hD hS => ?_)
  have hcar := I.2.2.2.1 q hq
  have ha : m % 5000 < 5000 := Nat.mod_lt _ (by decide)
  have hb2 : m % 32 < 32 := Nat.mod_lt _ (by decide)
  have hc2 : m % 500 < 500 := Nat.mod_lt _ (by decide)
  have hpl := lw_plug (qne := qne) I.pc I.n8 hq ha hb2 hc2
  refine lv_if_lt (tgt := 105) hx hb dL_law_98 (by decide) (fun cn => ?_) (fun cn => ?_)
  · have hne : qne q = -1 := by rcases hcar with x | x; exact x; rw [i_lt, i_0] at cn; omega
    rw [if_pos hne] at hpl
    refine lv_iconst (v := 0) hx hb dL_law_105 (by decide) ?_
    refine lv_istore (lv' := [(5, .int 0), (4, .int (nI q)), (3, .int (nI m)), (2, .int (nI k)), (0, .ref b), (1, .ref h)]) hx hb dL_law_106 hl (by decide) rfl (fun ls hl => ?_)
    refine lv_aload_n hx hb dL_law_108 rfl (lv_at hl 5 rfl) ?_
    refine lv_iconst (v := 4) hx hb dL_law_109 (by decide) ?_
    refine lv_iload hx hb dL_law_110 (lv_at hl 1 rfl) ?_
    refine lv_iconst (v := 1) hx hb dL_law_112 (by decide) ?_
    refine lv_iload_n hx hb dL_law_113 rfl (lv_at hl 2 rfl) ?_
    refine lv_sipush (v := 5000) hx hb dL_law_114 (by decide) ?_
    refine lv_irem hx hb dL_law_117 (by decide) ?_
    rw [lw_rem (a := m) (d := 5000) (D := 5000) rfl (by omega) (by decide) (by decide)]
    refine lv_iadd hx hb dL_law_118 ?_
    rw [show (1 : Int32) + nI (m % 5000) = nI (1 + m % 5000) from nI_add 1 (m % 5000)]
    refine lv_iconst (v := 1) hx hb dL_law_119 (by decide) ?_
    refine lv_iload_n hx hb dL_law_120 rfl (lv_at hl 2 rfl) ?_
    refine lv_bipush (v := 32) hx hb dL_law_121 (by decide) ?_
    refine lv_irem hx hb dL_law_123 (by decide) ?_
    rw [lw_rem (a := m) (d := 32) (D := 32) rfl (by omega) (by decide) (by decide)]
    refine lv_iadd hx hb dL_law_124 ?_
    rw [show (1 : Int32) + nI (m % 32) = nI (1 + m % 32) from nI_add 1 (m % 32)]
    refine lv_iconst (v := 1) hx hb dL_law_125 (by decide) ?_
    refine lv_iload_n hx hb dL_law_126 rfl (lv_at hl 2 rfl) ?_
    refine lv_sipush (v := 500) hx hb dL_law_127 (by decide) ?_
    refine lv_irem hx hb dL_law_130 (by decide) ?_
    rw [lw_rem (a := m) (d := 500) (D := 500) rfl (by omega) (by decide) (by decide)]
    refine lv_iadd hx hb dL_law_131 ?_
    rw [show (1 : Int32) + nI (m % 500) = nI (1 + m % 500) from nI_add 1 (m % 500)]
    refine lk_callH (rest := []) (As := [.ref h, .int 4, .int (nI q), .int (nI (1 + m % 5000)), .int (nI (1 + m % 32)), .int (nI (1 + m % 500))]) hC (a_plugIn l dC dI cI cZ h a qph qgr qne qap qle qfu qpc qgd qri qnw qtk qsv qwa qgi qlo qtu n (nI q) (nI (1 + m % 5000)) (nI (1 + m % 32)) (nI (1 + m % 500)) I.pc I.n8 hpl) (vx_cwSW 6 hts gL_law_L_act rfl rfl rfl hd_L_act ⟨Nat.le_of_ble_eq_true rfl, Nat.le_of_ble_eq_true rfl⟩) hK hNs hZ hP hD hS hA rfl hl.1 (Nat.le_of_ble_eq_true rfl) dL_law_132 rfl ⟨by show 511 + 93 * k + 0 + 0 ≤ 674541; omega, by show 3146 + 558 * k + 0 + 0 ≤ 7078002; omega⟩ (fun w2 H locs hB hP hD hS => ?_)
    subst hB
    refine lv_ldc (v := -70013) hx hb hown (hts (.constant RL 68 (-70013)) (by decide +kernel)) dL_law_135 ?_
    have hge := lw_plug_ge I (by omega) hq ha hb2 hc2 hpl
    have hn7 : ¬ (X0_plugIn qph qgr qne qap qle qpc qnw n (nI q) (nI (1 + m % 5000)) (nI (1 + m % 32)) (nI (1 + m % 500))).1 = -70013 := fun x => by have := hge.1; rw [x, show (-70013 : Int32).toInt = -70013 from rfl] at this; omega
    refine lv_icmp_ne (tgt := 144) hx hb dL_law_137 (by decide) (fun _ => ?_) (fun c => absurd c hn7)
    refine lv_iconst (v := 0) hx hb dL_law_144 (by decide) ?_
    refine lv_iload hx hb dL_law_145 (lv_at hl 0 rfl) ?_
    refine lv_icmp_ne (tgt := 219) hx hb dL_law_147 (by decide) (fun c => absurd rfl c) (fun _ => ?_)
    have I := Iv.plugIn (by omega) I hpl
    refine W.widen (k := 511 + 93 * k + 1) (n := 3146 + 558 * k + 6) (by omega) (by omega) ?_
    exact law_b hC hl0 hX hbl hL hK hNs hZ hk hm h1 h8 hq next _ _ _ _ _ _ _ _ _ _ _ _ _ _ _ _ I (by rw [hge.2, nI_toInt (by omega)]; omega) H locs ls hP hD hS (lv_sub hl [0, 1, 2, 3, 4, 5] rfl)
  · have hne : ¬ qne q = -1 := fun x => cn (by rw [x]; decide)
    rw [if_neg hne] at hpl
    have hc0 : 0 ≤ (qne q).toInt := by rw [i_lt, i_0] at cn; omega
    refine lv_iconst (v := 1) hx hb dL_law_101 (by decide) ?_
    refine lv_goto (tgt := 106) hx hb dL_law_102 (by decide) ?_
    refine lv_istore (lv' := [(5, .int 1), (4, .int (nI q)), (3, .int (nI m)), (2, .int (nI k)), (0, .ref b), (1, .ref h)]) hx hb dL_law_106 hl (by decide) rfl (fun ls hl => ?_)
    refine lv_aload_n hx hb dL_law_108 rfl (lv_at hl 5 rfl) ?_
    refine lv_iconst (v := 4) hx hb dL_law_109 (by decide) ?_
    refine lv_iload hx hb dL_law_110 (lv_at hl 1 rfl) ?_
    refine lv_iconst (v := 1) hx hb dL_law_112 (by decide) ?_
    refine lv_iload_n hx hb dL_law_113 rfl (lv_at hl 2 rfl) ?_
    refine lv_sipush (v := 5000) hx hb dL_law_114 (by decide) ?_
    refine lv_irem hx hb dL_law_117 (by decide) ?_
    rw [lw_rem (a := m) (d := 5000) (D := 5000) rfl (by omega) (by decide) (by decide)]
    refine lv_iadd hx hb dL_law_118 ?_
    rw [show (1 : Int32) + nI (m % 5000) = nI (1 + m % 5000) from nI_add 1 (m % 5000)]
    refine lv_iconst (v := 1) hx hb dL_law_119 (by decide) ?_
    refine lv_iload_n hx hb dL_law_120 rfl (lv_at hl 2 rfl) ?_
    refine lv_bipush (v := 32) hx hb dL_law_121 (by decide) ?_
    refine lv_irem hx hb dL_law_123 (by decide) ?_
    rw [lw_rem (a := m) (d := 32) (D := 32) rfl (by omega) (by decide) (by decide)]
    refine lv_iadd hx hb dL_law_124 ?_
    rw [show (1 : Int32) + nI (m % 32) = nI (1 + m % 32) from nI_add 1 (m % 32)]
    refine lv_iconst (v := 1) hx hb dL_law_125 (by decide) ?_
    refine lv_iload_n hx hb dL_law_126 rfl (lv_at hl 2 rfl) ?_
    refine lv_sipush (v := 500) hx hb dL_law_127 (by decide) ?_
    refine lv_irem hx hb dL_law_130 (by decide) ?_
    rw [lw_rem (a := m) (d := 500) (D := 500) rfl (by omega) (by decide) (by decide)]
    refine lv_iadd hx hb dL_law_131 ?_
    rw [show (1 : Int32) + nI (m % 500) = nI (1 + m % 500) from nI_add 1 (m % 500)]
    refine lk_callH (rest := []) (As := [.ref h, .int 4, .int (nI q), .int (nI (1 + m % 5000)), .int (nI (1 + m % 32)), .int (nI (1 + m % 500))]) hC (a_plugIn_3 l hl0 dC dI cI cZ h a qph qgr qne qap qle qfu qpc qgd qri qnw qtk qsv qwa qgi qlo qtu n (nI q) (nI (1 + m % 5000)) (nI (1 + m % 32)) (nI (1 + m % 500)) I.pc I.n8 hpl) (vx_cwSW 6 hts gL_law_L_act rfl rfl rfl hd_L_act ⟨Nat.le_of_ble_eq_true rfl, Nat.le_of_ble_eq_true rfl⟩) hK hNs hZ hP hD hS hA rfl hl.1 (Nat.le_of_ble_eq_true rfl) dL_law_132 rfl ⟨by show 511 + 93 * k + 0 + 1 ≤ 674541; omega, by show 3146 + 558 * k + 0 + 6 ≤ 7078002; omega⟩ (fun w2 H locs hB hP hD hS => ?_)
    subst hB
    refine lv_ldc (v := -70013) hx hb hown (hts (.constant RL 68 (-70013)) (by decide +kernel)) dL_law_135 ?_
    refine lv_icmp_ne (tgt := 144) hx hb dL_law_137 (by decide) (fun c => absurd rfl c) (fun _ => ?_)
    refine lv_iconst (v := 1) hx hb dL_law_140 (by decide) ?_
    refine lv_goto (tgt := 145) hx hb dL_law_141 (by decide) ?_
    refine lv_iload hx hb dL_law_145 (lv_at hl 0 rfl) ?_
    refine lv_icmp_ne (tgt := 219) hx hb dL_law_147 (by decide) (fun c => absurd rfl c) (fun _ => ?_)
    exact law_b hC hl0 hX hbl hL hK hNs hZ hk hm h1 h8 hq next _ _ _ _ _ _ _ _ _ _ _ _ _ _ _ _ (Iv.mono (by omega) I) hc0 H locs ls hP hD hS (lv_sub hl [0, 1, 2, 3, 4, 5] rfl)
set_option maxHeartbeats 4000000 in
set_option maxRecDepth 100000 in
theorem law_p {p : Program} {l : Launch} {e : Env} {s : State} {mi : MethodId} {args : Array Value} {below : List Frame} {meth : Method} {c : Code} {Q : State → Prop} {dC : Nat → ClassId} {dI : Nat → Nat → Nat} {cI cZ : ClassId} {b L : Nat} {xs : Nat → Int32} {h : Nat} {a : Nat → Nat} (hC : CallFix p mi c cL_law 6 s args wsL_law RL) (hl0 : l.stackTraces = false) (hX : va_X b L xs s s.heap) (hbl : b < s.heap.size) (hL : L ≤ 260) (hK : va_K (dC, dI) vwCl (kT cI cZ) s) (hNs : kN s) (hZ : kZ (fun q : Nat => s.heap.size ≤ q) s s.heap) {k m : Nat} (hk : k < 30) (hm : m < 33554432) (next : (∀ (qph : AR) (qgr : AR) (qne : AR) (qap : AR) (qle : AR) (qfu : AR) (qpc : Int32) (qgd : Int32) (qri : Int32) (qnw : Int32) (qtk : Int32) (qsv : Int32) (qwa : AR) (qgi : AR) (qlo : AR) (qtu : AR), Iv (5 * (k + 1)) (min (k + 1) 8) qph qgr qne qap qle qfu qpc qgd qri qnw → ∀ (H : Heap) (locs : List Loc) (ls : Array Slot), va_P (dC, dI) vwCl (xW cI cZ h a qph qgr qne qap qle qfu qpc qgd qri qnw qtk qsv qwa qgi qlo qtu) H → va_D (fun q : Nat => s.heap.size ≤ q) (xW cI cZ h a qph qgr qne qap qle qfu qpc qgd qri qnw qtk qsv qwa qgi qlo qtu) → va_S (fun q : Nat => s.heap.size ≤ q) s.heap H locs → lv_has ls 6 [(2, .int (nI (k + 1))), (0, .ref b), (1, .ref h)] → W p l e room_1 s mi args below meth c H locs (511 + 93 * (k + 1)) (3146 + 558 * (k + 1)) Q (F0 mi 30 ls []))) : ∀ (qph : AR) (qgr : AR) (qne : AR) (qap : AR) (qle : AR) (qfu : AR) (qpc : Int32) (qgd : Int32) (qri : Int32) (qnw : Int32) (qtk : Int32) (qsv : Int32) (qwa : AR) (qgi : AR) (qlo : AR) (qtu : AR), Iv (5 * k) (min k 8) qph qgr qne qap qle qfu qpc qgd qri qnw → ∀ (H : Heap) (locs : List Loc) (ls : Array Slot), va_P (dC, dI) vwCl (xW cI cZ h a qph qgr qne qap qle qfu qpc qgd qri qnw qtk qsv qwa qgi qlo qtu) H → va_D (fun q : Nat => s.heap.size ≤ q) (xW cI cZ h a qph qgr qne qap qle qfu qpc qgd qri qnw qtk qsv qwa qgi qlo qtu) → va_S (fun q : Nat => s.heap.size ≤ q) s.heap H locs → lv_has ls 6 [(3, .int (nI m)), (2, .int (nI k)), (0, .ref b), (1, .ref h)] → W p l e room_1 s mi args below meth c H locs (511 + 93 * k + 0) (3146 + 558 * k + 0) Q (F0 mi 58 ls []) := by
  obtain ⟨hx, hb, hml, hown, hts⟩ := id hC
  have hA : ∀ q : Nat, s.heap.size ≤ q → (fun q : Nat => s.heap.size ≤ q) q := fun _ h => h
  intro qph qgr qne qap qle qfu qpc qgd qri qnw qtk qsv qwa qgi qlo qtu I H locs ls hP hD hS hl
  refine lv_iload_n hx hb dL_law_58 rfl (lv_at hl 1 rfl) ?_
  refine lv_bipush (v := 8) hx hb dL_law_59 (by decide) ?_
  have ek := nI_toInt (n := k) (by omega)
  refine lv_icmp_ge (tgt := 84) hx hb dL_law_61 (by decide) (fun cg => ?_) (fun cg => ?_)
  · have k8 : ¬ k < 8 := fun x => by rw [i_le, ek] at cg; have e8 : (8 : Int32).toInt = 8 := rfl; omega
    have e1 : min k 8 = 8 := by omega
    have e2 : min (k + 1) 8 = 8 := by omega
    rw [e1] at I
    rw [e2] at next
    exact law_a hC hl0 hX hbl hL hK hNs hZ hk hm (by decide) (by decide) next _ _ _ _ _ _ _ _ _ _ _ _ _ _ _ _ (Iv.mono (by omega) I) H locs ls hP hD hS hl
  · have k8 : k < 8 := by rw [i_le, ek] at cg; have e8 : (8 : Int32).toInt = 8 := rfl; omega
    have e1 : min k 8 = k := by omega
    have e2 : min (k + 1) 8 = k + 1 := by omega
    rw [e1] at I
    rw [e2] at next
    have hN : m % 4 < 4 := Nat.mod_lt _ (by decide)
    have hM : m % 27 < 27 := Nat.mod_lt _ (by decide)
    refine lv_aload_n hx hb dL_law_64 rfl (lv_at hl 3 rfl) ?_
    refine lv_iload_n hx hb dL_law_65 rfl (lv_at hl 0 rfl) ?_
    refine lv_iconst (v := 4) hx hb dL_law_66 (by decide) ?_
    refine lv_irem hx hb dL_law_67 (by decide) ?_
    rw [lw_rem (a := m) (d := 4) (D := 4) rfl (by omega) (by decide) (by decide)]
    refine lv_bipush (v := 6) hx hb dL_law_68 (by decide) ?_
    refine lv_iload_n hx hb dL_law_70 rfl (lv_at hl 0 rfl) ?_
    refine lv_bipush (v := 27) hx hb dL_law_71 (by decide) ?_
    refine lv_irem hx hb dL_law_73 (by decide) ?_
    rw [lw_rem (a := m) (d := 27) (D := 27) rfl (by omega) (by decide) (by decide)]
    refine lv_iadd hx hb dL_law_74 ?_
    rw [show (6 : Int32) + nI (m % 27) = nI (6 + m % 27) from nI_add 6 (m % 27)]
    have hpt := lw_point I.pc k8 hN hM
    refine lk_park (rest := []) (As := [.int (nI (m % 4)), .int (nI (6 + m % 27))]) (v := (nI k)) hC (c_X0_point l dC dI cI cZ h a qph qgr qne qap qle qfu qpc qgd qri qnw qtk qsv qwa qgi qlo qtu k (nI (m % 4)) (nI (6 + m % 27)) I.pc I.n8 hpt) ((lw_point_v hpt).trans I.pc) (cwV 2 hts gL_law_X0_point rfl rfl rfl hd_X0_point ⟨Nat.le_of_ble_eq_true rfl, Nat.le_of_ble_eq_true rfl⟩) hK hP hD hS hA rfl rfl hl.1 (Nat.le_of_ble_eq_true rfl) dL_law_75 rfl ⟨by show 511 + 93 * k + 0 ≤ 674541; omega, by show 3146 + 558 * k + 0 ≤ 7078002; omega⟩ (fun qwa qgi qlo qtu H locs hP hD hS => ?_)
    refine lv_iload_n hx hb dL_law_78 rfl (lv_at hl 1 rfl) ?_
    refine lv_icmp_eq (tgt := 84) hx hb dL_law_79 (by decide) (fun _ => ?_) (fun c => absurd rfl c)
    have I := Iv.point (by omega) I hpt
    exact law_a hC hl0 hX hbl hL hK hNs hZ hk hm (by omega) (by omega) next _ _ _ _ _ _ _ _ _ _ _ _ _ _ _ _ I H locs ls hP hD hS hl
set_option maxHeartbeats 4000000 in
set_option maxRecDepth 100000 in
theorem law_loop {p : Program} {l : Launch} {e : Env} {s : State} {mi : MethodId} {args : Array Value} {below : List Frame} {meth : Method} {c : Code} {Q : State → Prop} {dC : Nat → ClassId} {dI : Nat → Nat → Nat} {cI cZ : ClassId} {b L : Nat} {xs : Nat → Int32} {h : Nat} {a : Nat → Nat} (hC : CallFix p mi c cL_law 6 s args wsL_law RL) (hl0 : l.stackTraces = false) (hX : va_X b L xs s s.heap) (hbl : b < s.heap.size) (hL : L ≤ 260) (hK : va_K (dC, dI) vwCl (kT cI cZ) s) (hNs : kN s) (hZ : kZ (fun q : Nat => s.heap.size ≤ q) s s.heap) (hexit : (∀ (H : Heap) (ls : Array Slot), W p l e room_1 s mi args below meth c H [] 674541 7078002 Q (F0 mi 228 ls [.int 1]))) : ∀ (j k : Nat) (qph : AR) (qgr : AR) (qne : AR) (qap : AR) (qle : AR) (qfu : AR) (qpc : Int32) (qgd : Int32) (qri : Int32) (qnw : Int32) (qtk : Int32) (qsv : Int32) (qwa : AR) (qgi : AR) (qlo : AR) (qtu : AR), k + j = 30 → Iv (5 * k) (min k 8) qph qgr qne qap qle qfu qpc qgd qri qnw → ∀ (H : Heap) (locs : List Loc) (ls : Array Slot), va_P (dC, dI) vwCl (xW cI cZ h a qph qgr qne qap qle qfu qpc qgd qri qnw qtk qsv qwa qgi qlo qtu) H → va_D (fun q : Nat => s.heap.size ≤ q) (xW cI cZ h a qph qgr qne qap qle qfu qpc qgd qri qnw qtk qsv qwa qgi qlo qtu) → va_S (fun q : Nat => s.heap.size ≤ q) s.heap H locs → lv_has ls 6 [(2, .int (nI k)), (0, .ref b), (1, .ref h)] → W p l e room_1 s mi args below meth c H locs (511 + 93 * k) (3146 + 558 * k) Q (F0 mi 30 ls []) := by
  obtain ⟨hx, hb, hml, hown, hts⟩ := id hC
  have hA : ∀ q : Nat, s.heap.size ≤ q → (fun q : Nat => s.heap.size ≤ q) q := fun _ h => h
  intro j; induction j with
  | zero =>
    intro k qph qgr qne qap qle qfu qpc qgd qri qnw qtk qsv qwa qgi qlo qtu hk I H locs ls hP hD hS hl
    have ek := nI_toInt (n := k) (by omega)
    have e30 : (30 : Int32).toInt = 30 := rfl
    refine lv_iload_n hx hb dL_law_30 rfl (lv_at hl 0 rfl) ?_
    refine lv_bipush (v := 30) hx hb dL_law_31 (by decide) ?_
    refine lv_icmp_ge (tgt := 227) hx hb dL_law_33 (by decide) (fun cg => ?_) (fun cg => absurd (by rw [i_le, ek, e30]; omega) cg)
    refine lv_iconst (v := 1) hx hb dL_law_227 (by decide) ?_
    refine W.widen (k := 674541) (n := 7078002) (by omega) (by omega) ?_
    exact va_forget hS.2.2 (hexit _ _)
  | succ j ih =>
    intro k qph qgr qne qap qle qfu qpc qgd qri qnw qtk qsv qwa qgi qlo qtu hk I H locs ls hP hD hS hl
    have ek := nI_toInt (n := k) (by omega)
    have e30 : (30 : Int32).toInt = 30 := rfl
    refine lv_iload_n hx hb dL_law_30 rfl (lv_at hl 0 rfl) ?_
    refine lv_bipush (v := 30) hx hb dL_law_31 (by decide) ?_
    refine lv_icmp_ge (tgt := 227) hx hb dL_law_33 (by decide) (fun cg => absurd cg (fun x => by rw [i_le, ek, e30] at x; omega)) (fun cg => ?_)
    have hbA : ¬ s.heap.size ≤ b := Nat.not_le.mpr hbl
    have hsk : k < 30 := by omega
    have nx : (∀ (qph : AR) (qgr : AR) (qne : AR) (qap : AR) (qle : AR) (qfu : AR) (qpc : Int32) (qgd : Int32) (qri : Int32) (qnw : Int32) (qtk : Int32) (qsv : Int32) (qwa : AR) (qgi : AR) (qlo : AR) (qtu : AR), Iv (5 * (k + 1)) (min (k + 1) 8) qph qgr qne qap qle qfu qpc qgd qri qnw → ∀ (H : Heap) (locs : List Loc) (ls : Array Slot), va_P (dC, dI) vwCl (xW cI cZ h a qph qgr qne qap qle qfu qpc qgd qri qnw qtk qsv qwa qgi qlo qtu) H → va_D (fun q : Nat => s.heap.size ≤ q) (xW cI cZ h a qph qgr qne qap qle qfu qpc qgd qri qnw qtk qsv qwa qgi qlo qtu) → va_S (fun q : Nat => s.heap.size ≤ q) s.heap H locs → lv_has ls 6 [(2, .int (nI (k + 1))), (0, .ref b), (1, .ref h)] → W p l e room_1 s mi args below meth c H locs (511 + 93 * (k + 1)) (3146 + 558 * (k + 1)) Q (F0 mi 30 ls [])) := fun qph qgr qne qap qle qfu qpc qgd qri qnw qtk qsv qwa qgi qlo qtu I H locs ls hP hD hS hl => ih (k + 1) qph qgr qne qap qle qfu qpc qgd qri qnw qtk qsv qwa qgi qlo qtu (by omega) I H locs ls hP hD hS hl
    refine lv_aload_n hx hb dL_law_36 rfl (lv_at hl 1 rfl) ?_
    refine va_slen hx hb hX hbl hbA hS dL_law_37 ?_
    refine lv_if_ne (tgt := 48) hx hb dL_law_38 (by decide) (fun c0 => ?_) (fun c0 => ?_)
    · have hL0 : 0 < L := by rcases Nat.eq_zero_or_pos L with x | x; exact absurd (by rw [x]; rfl) c0; exact x
      refine lv_aload_n hx hb dL_law_48 rfl (lv_at hl 1 rfl) ?_
      refine lv_iload_n hx hb dL_law_49 rfl (lv_at hl 0 rfl) ?_
      refine lv_aload_n hx hb dL_law_50 rfl (lv_at hl 1 rfl) ?_
      refine va_slen hx hb hX hbl hbA hS dL_law_51 ?_
      refine lv_irem hx hb dL_law_52 c0 ?_
      rw [lw_rem (a := k) (d := L) (D := Int32.ofNat L) rfl (by omega) hL0 (by omega)]
      refine va_sld hx hb hX hbl hbA hS (vp_in_nI (Nat.mod_lt _ hL0) (by omega)) dL_law_53 ?_
      refine lv_bipush (v := 7) hx hb dL_law_54 (by decide) ?_
      obtain ⟨m, hm, em⟩ := lw_ush (xs (nI (k % L)).toNatClampNeg)
      refine lv_iushr (v := nI m) hx hb dL_law_56 em ?_
      refine lv_istore_n (lv' := [(3, .int (nI m)), (2, .int (nI k)), (0, .ref b), (1, .ref h)]) hx hb dL_law_57 rfl hl (by decide) rfl (fun ls hl => ?_)
      exact law_p hC hl0 hX hbl hL hK hNs hZ hsk hm nx _ _ _ _ _ _ _ _ _ _ _ _ _ _ _ _ I H locs ls hP hD hS (lv_sub hl [0, 1, 2, 3] rfl)
    · refine lv_bipush (v := 41) hx hb dL_law_41 (by decide) ?_
      refine lv_iload_n hx hb dL_law_43 rfl (lv_at hl 0 rfl) ?_
      refine lv_imul hx hb dL_law_44 ?_
      rw [show (41 : Int32) * nI k = nI (41 * k) from pk_mul 41 k]
      refine lv_goto (tgt := 57) hx hb dL_law_45 (by decide) ?_
      refine lv_istore_n (lv' := [(3, .int (nI (41 * k))), (2, .int (nI k)), (0, .ref b), (1, .ref h)]) hx hb dL_law_57 rfl hl (by decide) rfl (fun ls hl => ?_)
      exact law_p hC hl0 hX hbl hL hK hNs hZ hsk (by omega) nx _ _ _ _ _ _ _ _ _ _ _ _ _ _ _ _ I H locs ls hP hD hS (lv_sub hl [0, 1, 2, 3] rfl)
