abbrev AR : Type := Nat → Int32
def xFs (a : Nat → Nat) (qpc qgd qri qnw qtk qsv : Int32) : List Value := [.ref (a 0), .ref (a 1), .ref (a 2), .ref (a 3), .ref (a 4), .ref (a 5), .int qpc, .int qgd, .int qri, .int qnw, .int qtk, .int qsv, .ref (a 12), .ref (a 13), .ref (a 14), .ref (a 15)]
def xW (cI cZ : ClassId) (h : Nat) (a : Nat → Nat) (qph : AR) (qgr : AR) (qne : AR) (qap : AR) (qle : AR) (qfu : AR) (qpc : Int32) (qgd : Int32) (qri : Int32) (qnw : Int32) (qtk : Int32) (qsv : Int32) (qwa : AR) (qgi : AR) (qlo : AR) (qtu : AR) : va_W := [(h, .inr (0, xFs a qpc qgd qri qnw qtk qsv)), (a 0, .inl (cI, 8, .inl qph)), (a 1, .inl (cI, 8, .inl qgr)), (a 2, .inl (cI, 8, .inl qne)), (a 3, .inl (cI, 8, .inl qap)), (a 4, .inl (cI, 8, .inl qle)), (a 5, .inl (cI, 3, .inl qfu)), (a 12, .inl (cI, 8, .inl qwa)), (a 13, .inl (cI, 8, .inl qgi)), (a 14, .inl (cI, 3, .inl qlo)), (a 15, .inl (cI, 8, .inl qtu))]
def kT (cI _cZ : ClassId) : List (ClassId × FieldType) := [(cI, .int)]
def kPre (dC : Nat → ClassId) (dI : Nat → Nat → Nat) (cI cZ : ClassId) (w : va_W) (sz : Nat) (U : State) : Prop := U.heap.size = sz ∧ va_P (dC, dI) vwCl w U.heap ∧ va_K (dC, dI) vwCl (kT cI cZ) U ∧ va_D (fun _ => True) w
def kBeh (dC : Nat → ClassId) (dI : Nat → Nat → Nat) (A : Nat → Prop) (w : va_W) (_ : Unit) (t : State) : Prop := va_P (dC, dI) vwCl w t.heap ∧ va_D A w
/-- a method that returns the int v and leaves the world w2 -/
def Ki (l : Launch) (y : MethodName) (ws : List Cond) (rm : Room) (dC : Nat → ClassId) (dI : Nat → Nat → Nat) (cI cZ : ClassId) (av : List Value) (w w2 : va_W) (v : Int32) : Prop := ∀ sz : Nat, Met l y ws rm (va_Pc av (kPre dC dI cI cZ w sz)) (va_Qi (fun r (_ : Unit) => r = v) (kBeh dC dI (va_A w sz) w2) (va_A w sz)) 0 0 (va_A w sz)
/-- a method that returns nothing and leaves the world w2 -/
def Kv (l : Launch) (y : MethodName) (ws : List Cond) (rm : Room) (dC : Nat → ClassId) (dI : Nat → Nat → Nat) (cI cZ : ClassId) (av : List Value) (w w2 : va_W) : Prop := ∀ sz : Nat, Met l y ws rm (va_Pc av (kPre dC dI cI cZ w sz)) (va_Qv (fun (_ : Unit) => True) (kBeh dC dI (va_A w sz) w2) (va_A w sz)) 0 0 (va_A w sz)
theorem kPre_blind {dC : Nat → ClassId} {dI : Nat → Nat → Nat} {cI cZ : ClassId} {w : va_W} {sz : Nat} {av : List Value} : FrameBlind (va_Pc av (kPre dC dI cI cZ w sz)) := fun a U g mk q => by
  obtain ⟨q0, q1, qP, qK, qD⟩ := q
  exact ⟨q0, q1, qP, va_K.moved (u := U) (U := U.calling g mk a) (Vm.Alike.refl U.vm) qK, qD⟩
theorem kPre_at {dC : Nat → ClassId} {dI : Nat → Nat → Nat} {cI cZ : ClassId} {w : va_W} {A : Nat → Prop} {av : List Value} {s : State} {H : Heap} (hK : va_K (dC, dI) vwCl (kT cI cZ) s) (hP : va_P (dC, dI) vwCl w H) (hD : va_D A w) : ∀ U : State, U.heap = H → s.WarmedH U.vm → va_Pc av (kPre dC dI cI cZ w H.size) av.toArray U := fun U hU hW => ⟨rfl, by rw [hU], by rw [hU]; exact hP, va_K.moved hW.alike hK, hD.weaken (fun _ _ _ _ => trivial)⟩
theorem k_free {A : Nat → Prop} {w : va_W} {H0 H : Heap} {locs : List Loc} (hD : va_D A w) (hS : va_S A H0 H locs) (hA : ∀ q, H0.size ≤ q → A q) : ∀ q, va_A w H.size q → A q := by
  intro q hq
  rcases hq with ⟨k, e, hk⟩ | hq
  · exact hD.2 k (q, e) hk
  · exact hA q (Nat.le_trans hS.1 hq)
section
variable {p : Program} {l : Launch} {e : Env} {R : Room} {s : State} {m : MethodId} {args : Array Value} {below : List Frame} {meth : Method} {c : Code} {H : Heap} {locs : List Loc} {cells slots : Nat} {Q : State → Prop}
variable {cc : ByteArray} {pc : Nat} {ls : Array Slot} {rest : List Value} {dC : Nat → ClassId} {dI : Nat → Nat → Nat} {cI cZ : ClassId} {A : Nat → Prop} {H0 : Heap} {w w2 : va_W}
theorem k_iret {r v : Int32} (hx : p.tables.exec = Jvm.exec) (hb : c.code = cc) (hr : meth.sig.returnType = some .int) (hlocks : meth.locks = false) (hS : va_S A s.heap H locs) (hP : va_P (dC, dI) vwCl w2 H) (hD : va_D A w2) (hv : r = v) (d : decode cc pc = .ok (.ireturn, 1)) : W p l e R s m args below meth c H locs 0 0 (MQ below (va_Qi (fun r (_ : Unit) => r = v) (kBeh dC dI A w2) A) args s 0 0 A) (F0 m pc ls [.int r]) :=
  W.iret (v := r) hx hb hr (fun t ht hW => ⟨⟨r, (), rfl, hv, by rw [ht]; exact hP, hD⟩, hS.F ht⟩) hS.2.2 d hlocks
theorem k_zret {r v : Int32} (hx : p.tables.exec = Jvm.exec) (hb : c.code = cc) (hr : meth.sig.returnType = some .boolean) (hlocks : meth.locks = false) (hS : va_S A s.heap H locs) (hP : va_P (dC, dI) vwCl w2 H) (hD : va_D A w2) (hv : r = v) (hz : r = 0 ∨ r = 1) (d : decode cc pc = .ok (.ireturn, 1)) : W p l e R s m args below meth c H locs 0 0 (MQ below (va_Qi (fun r (_ : Unit) => r = v) (kBeh dC dI A w2) A) args s 0 0 A) (F0 m pc ls [.int r]) :=
  W.zret (v := r) hx hb hr (by rcases hz with rfl | rfl <;> rfl) (fun t ht hW => ⟨⟨r, (), rfl, hv, by rw [ht]; exact hP, hD⟩, hS.F ht⟩) hS.2.2 d hlocks
theorem k_vret (hx : p.tables.exec = Jvm.exec) (hb : c.code = cc) (hr : meth.sig.returnType = none) (hlocks : meth.locks = false) (hS : va_S A s.heap H locs) (hP : va_P (dC, dI) vwCl w2 H) (hD : va_D A w2) (d : decode cc pc = .ok (.return_, 1)) : W p l e R s m args below meth c H locs 0 0 (MQ below (va_Qv (fun (_ : Unit) => True) (kBeh dC dI A w2) A) args s 0 0 A) (F0 m pc ls []) :=
  W.vret hx hb hr (fun t ht hW => ⟨⟨(), rfl, trivial, by rw [ht]; exact hP, hD⟩, hS.F ht⟩) hS.2.2 d hlocks
/-- a call of an instance method on the very world w -/
theorem k_calli {own C : String} {index nL maxL n : Nat} {y : MethodName} {bytes : ByteArray} {ret : Option FieldType} {Ts wy : List Cond} {rm : Room} {As : List Value} {b ci q0 : Nat} {fs : List Value} {T : u_T} {N : Nat} {v : Int32} (hC : CallFix p m c cc nL s args Ts own) (hM : Ki l y wy rm dC dI cI cZ (.ref b :: As) w w2 v) (cw : CallW R s args own C index y bytes maxL ret wy rm 0 0 n) (hK : va_K (dC, dI) vwCl (kT cI cZ) s) (hP : va_P (dC, dI) vwCl w H) (hD : va_D A w) (hS : va_S A H0 H locs) (hA : ∀ q, H0.size ≤ q → A q) (he : w[q0]? = some (b, .inr (ci, fs))) (hc : vwCl[ci]? = some (C, T, N)) (hn : As.length = n) (hl : ls.size = nL) (hr : (rest.map fun v => v.category).sum ≤ 8) (d : decode cc pc = .ok (.invokevirtual index, 3)) {st : List Value} (hst : st = As.reverse ++ .ref b :: rest) (hR : cells ≤ R.cells ∧ slots ≤ R.slots)
    (kk : ∀ (H1 : Heap) (locs1 : List Loc), va_P (dC, dI) vwCl w2 H1 → va_D A w2 → va_S A H0 H1 locs1 → W p l e R s m args below meth c H1 locs1 cells slots Q (F0 m (pc + 3) ls (.int v :: rest))) : W p l e R s m args below meth c H locs cells slots Q (F0 m pc ls st) := by
  have hF := k_free hD hS hA
  refine va_calli (va_runV (As := As) (b := b) (rest := rest) hC (hM H.size) cw ⟨kPre_blind, va_recv hK hP hc he, kPre_at hK hP hD⟩ rfl hn hl hst (lv_room hr) d hR) hS (fun q _ h => hF q h) hF (fun r u t H1 locs1 ht hvm hw hB hz hk hS1 => ?_)
  subst hw
  obtain ⟨hP1, hD1⟩ := hB
  rw [ht] at hP1
  exact kk H1 locs1 hP1 (hD1.weaken (fun _ q _ h => hF _ h)) hS1
theorem k_callv {own C : String} {index nL maxL n : Nat} {y : MethodName} {bytes : ByteArray} {ret : Option FieldType} {Ts wy : List Cond} {rm : Room} {As : List Value} {b ci q0 : Nat} {fs : List Value} {T : u_T} {N : Nat} (hC : CallFix p m c cc nL s args Ts own) (hM : Kv l y wy rm dC dI cI cZ (.ref b :: As) w w2) (cw : CallW R s args own C index y bytes maxL ret wy rm 0 0 n) (hK : va_K (dC, dI) vwCl (kT cI cZ) s) (hP : va_P (dC, dI) vwCl w H) (hD : va_D A w) (hS : va_S A H0 H locs) (hA : ∀ q, H0.size ≤ q → A q) (he : w[q0]? = some (b, .inr (ci, fs))) (hc : vwCl[ci]? = some (C, T, N)) (hn : As.length = n) (hl : ls.size = nL) (hr : (rest.map fun v => v.category).sum ≤ 8) (d : decode cc pc = .ok (.invokevirtual index, 3)) {st : List Value} (hst : st = As.reverse ++ .ref b :: rest) (hR : cells ≤ R.cells ∧ slots ≤ R.slots)
    (kk : ∀ (H1 : Heap) (locs1 : List Loc), va_P (dC, dI) vwCl w2 H1 → va_D A w2 → va_S A H0 H1 locs1 → W p l e R s m args below meth c H1 locs1 cells slots Q (F0 m (pc + 3) ls rest)) : W p l e R s m args below meth c H locs cells slots Q (F0 m pc ls st) := by
  have hF := k_free hD hS hA
  refine va_callv (va_runV (As := As) (b := b) (rest := rest) hC (hM H.size) cw ⟨kPre_blind, va_recv hK hP hc he, kPre_at hK hP hD⟩ rfl hn hl hst (lv_room hr) d hR) hS (fun q _ h => hF q h) hF (fun u t H1 locs1 ht hvm hw hB hz hk hS1 => ?_)
  obtain ⟨hP1, hD1⟩ := hB
  rw [ht] at hP1
  exact kk H1 locs1 hP1 (hD1.weaken (fun _ q _ h => hF _ h)) hS1
/-- a call of a static method that touches nothing -/
theorem k_calls {own : String} {index nL maxL n : Nat} {y : MethodName} {bytes : ByteArray} {ret : Option FieldType} {Ts wy : List Cond} {rm : Room} {As : List Value} {v : Int32} (hC : CallFix p m c cc nL s args Ts own) (hM : Ki l y wy rm dC dI cI cZ As w w v) (cw : CallB R s args own index y bytes maxL ret wy rm 0 0 n ∧ (Cond.static y).before args s = true) (hK : va_K (dC, dI) vwCl (kT cI cZ) s) (hP : va_P (dC, dI) vwCl w H) (hD : va_D A w) (hS : va_S A H0 H locs) (hA : ∀ q, H0.size ≤ q → A q) (hn : As.length = n) (hl : ls.size = nL) (hr : (rest.map fun v => v.category).sum ≤ 8) (d : decode cc pc = .ok (.invokestatic index, 3)) {st : List Value} (hst : st = As.reverse ++ rest) (hR : cells ≤ R.cells ∧ slots ≤ R.slots)
    (kk : ∀ (H1 : Heap) (locs1 : List Loc), va_P (dC, dI) vwCl w H1 → va_D A w → va_S A H0 H1 locs1 → W p l e R s m args below meth c H1 locs1 cells slots Q (F0 m (pc + 3) ls (.int v :: rest))) : W p l e R s m args below meth c H locs cells slots Q (F0 m pc ls st) := by
  have hF := k_free hD hS hA
  refine va_calli (va_runS (As := As) (rest := rest) hC (hM H.size) cw ⟨kPre_blind, kPre_at hK hP hD⟩ rfl hn hl hst (lv_room hr) d hR) hS (fun q _ h => hF q h) hF (fun r u t H1 locs1 ht hvm hw hB hz hk hS1 => ?_)
  subst hw
  obtain ⟨hP1, hD1⟩ := hB
  rw [ht] at hP1
  exact kk H1 locs1 hP1 (hD1.weaken (fun _ q _ h => hF _ h)) hS1
end
theorem k_enter_i {l : Launch} {y : MethodName} {ws ws' : List Cond} {rm : Room} {dC : Nat → ClassId} {dI : Nat → Nat → Nat} {cI cZ : ClassId} {av : List Value} {w w2 : va_W} {v : Int32} {cc : ByteArray} {maxL : Nat} {ret : Option FieldType} (hy : plainName y.cls = true) (hw : ws = Cond.code y cc maxL ret :: ws') (hn : (lg_sl av).length ≤ maxL)
    (body : ∀ (p : Program) (e : Env) (s : State) (m : MethodId) (below : List Frame) (meth : Method) (c : Code) (A : Nat → Prop) (ls : Array Slot), CallFix p m c cc maxL s av.toArray ws y.cls → meth.sig.returnType = ret → meth.locks = false → va_K (dC, dI) vwCl (kT cI cZ) s → va_P (dC, dI) vwCl w s.heap → va_D A w → va_S A s.heap s.heap [] → (∀ q, s.heap.size ≤ q → A q) → lv_has ls maxL (lv_args 0 av) →
      W p l e rm s m av.toArray below meth c s.heap [] 0 0 (MQ below (va_Qi (fun r (_ : Unit) => r = v) (kBeh dC dI A w2) A) av.toArray s 0 0 A) (F0 m 0 ls [])) : Ki l y ws rm dC dI cI cZ av w w2 v := by
  intro sz
  refine Met.ofW (cc := cc) (maxL := maxL) (ret := ret) hy hw ?_
  intro p e s m args below meth c s₁ B hml hv
  obtain ⟨rfl, hsz, hP, hK, hD0⟩ := hv
  subst hsz
  have hl := lv_entry av (n := maxL) hn
  rw [lg_entry_eq]
  exact body p e s m below meth c _ _ ⟨B.exec, B.bytes, hml, findClass_of_methodNamed B.named, atoms_spec (ws := ws) B.pre⟩ B.returns B.notSynchronized hK hP (hD0.self (sz := s.heap.size)) va_S.rf (fun q h => Or.inr h) hl
theorem k_enter_v {l : Launch} {y : MethodName} {ws ws' : List Cond} {rm : Room} {dC : Nat → ClassId} {dI : Nat → Nat → Nat} {cI cZ : ClassId} {av : List Value} {w w2 : va_W} {cc : ByteArray} {maxL : Nat} {ret : Option FieldType} (hy : plainName y.cls = true) (hw : ws = Cond.code y cc maxL ret :: ws') (hn : (lg_sl av).length ≤ maxL)
    (body : ∀ (p : Program) (e : Env) (s : State) (m : MethodId) (below : List Frame) (meth : Method) (c : Code) (A : Nat → Prop) (ls : Array Slot), CallFix p m c cc maxL s av.toArray ws y.cls → meth.sig.returnType = ret → meth.locks = false → va_K (dC, dI) vwCl (kT cI cZ) s → va_P (dC, dI) vwCl w s.heap → va_D A w → va_S A s.heap s.heap [] → (∀ q, s.heap.size ≤ q → A q) → lv_has ls maxL (lv_args 0 av) →
      W p l e rm s m av.toArray below meth c s.heap [] 0 0 (MQ below (va_Qv (fun (_ : Unit) => True) (kBeh dC dI A w2) A) av.toArray s 0 0 A) (F0 m 0 ls [])) : Kv l y ws rm dC dI cI cZ av w w2 := by
  intro sz
  refine Met.ofW (cc := cc) (maxL := maxL) (ret := ret) hy hw ?_
  intro p e s m args below meth c s₁ B hml hv
  obtain ⟨rfl, hsz, hP, hK, hD0⟩ := hv
  subst hsz
  have hl := lv_entry av (n := maxL) hn
  rw [lg_entry_eq]
  exact body p e s m below meth c _ _ ⟨B.exec, B.bytes, hml, findClass_of_methodNamed B.named, atoms_spec (ws := ws) B.pre⟩ B.returns B.notSynchronized hK hP (hD0.self (sz := s.heap.size)) va_S.rf (fun q h => Or.inr h) hl
theorem vpc0_3 : vp_in 0 3 := by unfold vp_in; decide
theorem vpc1_3 : vp_in 1 3 := by unfold vp_in; decide
theorem vpc2_3 : vp_in 2 3 := by unfold vp_in; decide
theorem vpc0_8 : vp_in 0 8 := by unfold vp_in; decide
theorem nI0_le : nI 0 ≤ 0 := by decide
theorem nI_m1 (n : Nat) : nI (n + 1) + Int32.ofInt (-1) = nI n := pk_m1 n
theorem vp_pred {n N : Nat} (h : n < N) (hN : N < 2 ^ 31) : vp_in (nI (n + 1) - 1) N := by rw [nI_pred]; exact vp_in_nI h hN
theorem nz_ge {x : Int32} (h : 1 ≤ x) : ¬ x = 0 := by
  intro e
  rw [e] at h
  exact absurd h (by decide)
theorem nIl3 : (3 : Int32) = nI 3 := rfl
theorem nIl8 : (8 : Int32) = nI 8 := rfl
theorem nIl32 : (32 : Int32) = nI 32 := rfl
theorem nIl256 : (256 : Int32) = nI 256 := rfl
theorem upd_in {f : AR} {w k : Nat} {x : Int32} (h : ∀ i, i < w → vp_in (f i) 8) (hx : vp_in x 8) : ∀ i, i < w → vp_in (upd f k x i) 8 := by
  intro i hi
  unfold upd
  split
  · exact hx
  · exact h i hi
theorem upd_in1 {f : AR} {w k : Nat} {x : Int32} (hk : k = w) (h : ∀ i, i < w → vp_in (f i) 8) (hx : vp_in x 8) : ∀ i, i < w + 1 → vp_in (upd f k x i) 8 := by
  intro i hi
  unfold upd
  split
  · exact hx
  · exact h i (by omega)
theorem xfd6 : parseFieldDescriptor (TX0 6).2.2.1 = some .int := by decide +kernel
theorem xfd7 : parseFieldDescriptor (TX0 7).2.2.1 = some .int := by decide +kernel
theorem xfd8 : parseFieldDescriptor (TX0 8).2.2.1 = some .int := by decide +kernel
theorem xfd9 : parseFieldDescriptor (TX0 9).2.2.1 = some .int := by decide +kernel
theorem xfd10 : parseFieldDescriptor (TX0 10).2.2.1 = some .int := by decide +kernel
theorem xfd11 : parseFieldDescriptor (TX0 11).2.2.1 = some .int := by decide +kernel
