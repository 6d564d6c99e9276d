def kT3 (cI cZ cL : ClassId) : List (ClassId × FieldType) := [(cI, .int), (cZ, .boolean), (cL, .long)]
def oW (cL : ClassId) (o : Nat) (g : Nat → Int64) : va_W := [(o, .inl (cL, 1, .inr (.inl g)))]
def kPre3 (dC : Nat → ClassId) (dI : Nat → Nat → Nat) (cI cZ cL : ClassId) (w : va_W) (sz : Nat) (U : State) : Prop := U.heap.size = sz ∧ va_P (dC, dI) vwCl w U.heap ∧ va_K (dC, dI) vwCl (kT3 cI cZ cL) U ∧ va_D (fun _ => True) w
def kPre3X (dC : Nat → ClassId) (dI : Nat → Nat → Nat) (cI cZ cL : ClassId) (w : va_W) (sz : Nat) (U : State) : Prop := kPre3 dC dI cI cZ cL w sz U ∧ kN U ∧ kZ (va_A w sz) U U.heap
theorem k_left {D : va_G} {cl : List vw_C} {a b : va_W} {H : Heap} (h : va_P D cl (a ++ b) H) : va_P D cl a H := fun k q hk => h k q (by rw [List.getElem?_append_left (List.getElem?_eq_some_iff.mp hk).1]; exact hk)
theorem k_right {D : va_G} {cl : List vw_C} {a b : va_W} {H : Heap} (h : va_P D cl (a ++ b) H) : va_P D cl b H := fun k q hk => h (a.length + k) q (by rw [List.getElem?_append_right (Nat.le_add_right _ _), Nat.add_sub_cancel_left]; exact hk)
theorem k_leftD {A : Nat → Prop} {a b : va_W} (h : va_D A (a ++ b)) : va_D A a := ⟨fun i j p q hi hj e => h.1 i j p q (by rw [List.getElem?_append_left (List.getElem?_eq_some_iff.mp hi).1]; exact hi) (by rw [List.getElem?_append_left (List.getElem?_eq_some_iff.mp hj).1]; exact hj) e, fun k q hk => h.2 k q (by rw [List.getElem?_append_left (List.getElem?_eq_some_iff.mp hk).1]; exact hk)⟩
theorem k_rightD {A : Nat → Prop} {a b : va_W} (h : va_D A (a ++ b)) : va_D A b := ⟨fun i j p q hi hj e => by
  have := h.1 (a.length + i) (a.length + j) p q (by rw [List.getElem?_append_right (Nat.le_add_right _ _), Nat.add_sub_cancel_left]; exact hi) (by rw [List.getElem?_append_right (Nat.le_add_right _ _), Nat.add_sub_cancel_left]; exact hj) e
  omega, fun k q hk => h.2 (a.length + k) q (by rw [List.getElem?_append_right (Nat.le_add_right _ _), Nat.add_sub_cancel_left]; exact hk)⟩
theorem k_apart {A : Nat → Prop} {a b : va_W} (h : va_D A (a ++ b)) {i j : Nat} {p q : Nat × va_E} (hi : a[i]? = some p) (hj : b[j]? = some q) : p.1 ≠ q.1 := by
  intro e
  have h1 := (List.getElem?_eq_some_iff.mp hi).1
  have := h.1 i (a.length + j) p q (by rw [List.getElem?_append_left h1]; exact hi) (by rw [List.getElem?_append_right (Nat.le_add_right _ _), Nat.add_sub_cancel_left]; exact hj) e
  omega
theorem k_commP {D : va_G} {cl : List vw_C} {a b : va_W} {H : Heap} (h : va_P D cl (a ++ b) H) : va_P D cl (b ++ a) H := (k_right h).app (k_left h)
theorem k_commD {A : Nat → Prop} {a b : va_W} (h : va_D A (a ++ b)) : va_D A (b ++ a) := (k_rightD h).app (k_leftD h) (fun _ _ _ _ hi hj e => k_apart h hj hi e.symm)
/-- the frame: what is beside the callee's world stays -/
theorem k_frame {D : va_G} {cl : List vw_C} {wc wr w2 : va_W} {H H1 : Heap} {A : Nat → Prop} (hP : va_P D cl (wc ++ wr) H) (hD : va_D A (wc ++ wr)) (hk : ∀ q : Nat, q < H.size → ¬ va_A wc H.size q → H1[q]? = H[q]?) (hF : ∀ q, va_A wc H.size q → A q) (hP2 : va_P D cl w2 H1) (hD2 : va_D (va_A wc H.size) w2) : va_P D cl (w2 ++ wr) H1 ∧ va_D A (w2 ++ wr) := by
  have hno : ∀ (k : Nat) (q : Nat × va_E), wr[k]? = some q → ¬ va_A wc H.size q.1 := by
    intro k q hq hA
    rcases hA with ⟨i, x, hi⟩ | hA
    · exact k_apart hD hi hq rfl
    · exact absurd (vx_lt (k_right hP) hq) (Nat.not_lt.mpr hA)
  refine ⟨hP2.app ((k_right hP).kept (fun k q hq => hk q.1 (vx_lt (k_right hP) hq) (hno k q hq))), ?_⟩
  refine (hD2.weaken (fun _ _ _ h => hF _ h)).app (k_rightD hD) (fun i j p q hi hj e => ?_)
  exact hno j q hj (by rw [← e]; exact hD2.2 i p hi)
section
variable {p : Program} {l : Launch} {e : Env} {R : Room} {s : State} {m : MethodId} {args : Array Value} {below : List Frame} {meth : Method} {c : Code} {H : Heap} {locs : List Loc} {cells slots : Nat} {Q : State → Prop}
variable {cc : ByteArray} {pc : Nat} {ls : Array Slot} {rest : List Value} {dC : Nat → ClassId} {dI : Nat → Nat → Nat} {cI cZ cL : ClassId} {A : Nat → Prop} {H0 : Heap} {w wr w2 : va_W} {ex : String → Prop}
/-- a call on a part of the world -/
theorem kf_calli {own C : String} {index nL maxL n : Nat} {y : MethodName} {bytes : ByteArray} {ret : Option FieldType} {Ts wy : List Cond} {rm : Room} {As : List Value} {b ci q0 : Nat} {fs : List Value} {T : u_T} {N : Nat} {v : Int32} (hC : CallFix p m c cc nL s args Ts own) (hM : Ki l y wy rm dC dI cI cZ (.ref b :: As) w w2 v) (cw : CallW R s args own C index y bytes maxL ret wy rm 0 0 n) (hK : va_K (dC, dI) vwCl (kT cI cZ) s) (hP : va_P (dC, dI) vwCl (w ++ wr) H) (hD : va_D A (w ++ wr)) (hS : va_S A H0 H locs) (hA : ∀ q, H0.size ≤ q → A q) (he : w[q0]? = some (b, .inr (ci, fs))) (hc : vwCl[ci]? = some (C, T, N)) (hn : As.length = n) (hl : ls.size = nL) (hr : (rest.map fun v => v.category).sum ≤ 8) (d : decode cc pc = .ok (.invokevirtual index, 3)) {st : List Value} (hst : st = As.reverse ++ .ref b :: rest) (hR : cells ≤ R.cells ∧ slots ≤ R.slots)
    (kk : ∀ (H1 : Heap) (locs1 : List Loc), va_P (dC, dI) vwCl (w2 ++ wr) H1 → va_D A (w2 ++ wr) → va_S A H0 H1 locs1 → W p l e R s m args below meth c H1 locs1 cells slots Q (F0 m (pc + 3) ls (.int v :: rest))) : W p l e R s m args below meth c H locs cells slots Q (F0 m pc ls st) := by
  have hF := k_free (k_leftD hD) hS hA
  refine va_calli (va_runV (As := As) (b := b) (rest := rest) hC (hM H.size) cw ⟨kPre_blind, va_recv hK (k_left hP) hc he, kPre_at hK (k_left hP) (k_leftD hD)⟩ rfl hn hl hst (lv_room hr) d hR) hS (fun q _ h => hF q h) hF (fun r u t H1 locs1 ht hvm hw hB hz hk hS1 => ?_)
  subst hw
  obtain ⟨hP1, hD1⟩ := hB
  rw [ht] at hP1
  have h := k_frame hP hD hk hF hP1 hD1
  exact kk H1 locs1 h.1 h.2 hS1
theorem kf_calliR {own C : String} {index nL maxL n : Nat} {y : MethodName} {bytes : ByteArray} {ret : Option FieldType} {Ts wy : List Cond} {rm : Room} {As : List Value} {b ci q0 : Nat} {fs : List Value} {T : u_T} {N : Nat} {v : Int32} (hC : CallFix p m c cc nL s args Ts own) (hM : Ki l y wy rm dC dI cI cZ (.ref b :: As) w w2 v) (cw : CallW R s args own C index y bytes maxL ret wy rm 0 0 n) (hK : va_K (dC, dI) vwCl (kT cI cZ) s) (hP : va_P (dC, dI) vwCl (wr ++ w) H) (hD : va_D A (wr ++ w)) (hS : va_S A H0 H locs) (hA : ∀ q, H0.size ≤ q → A q) (he : w[q0]? = some (b, .inr (ci, fs))) (hc : vwCl[ci]? = some (C, T, N)) (hn : As.length = n) (hl : ls.size = nL) (hr : (rest.map fun v => v.category).sum ≤ 8) (d : decode cc pc = .ok (.invokevirtual index, 3)) {st : List Value} (hst : st = As.reverse ++ .ref b :: rest) (hR : cells ≤ R.cells ∧ slots ≤ R.slots)
    (kk : ∀ (H1 : Heap) (locs1 : List Loc), va_P (dC, dI) vwCl (wr ++ w2) H1 → va_D A (wr ++ w2) → va_S A H0 H1 locs1 → W p l e R s m args below meth c H1 locs1 cells slots Q (F0 m (pc + 3) ls (.int v :: rest))) : W p l e R s m args below meth c H locs cells slots Q (F0 m pc ls st) :=
  kf_calli hC hM cw hK (k_commP hP) (k_commD hD) hS hA he hc hn hl hr d hst hR (fun H1 locs1 hP hD hS => kk H1 locs1 (k_commP hP) (k_commD hD) hS)
theorem kf_callX {own C : String} {index nL maxL n : Nat} {y : MethodName} {bytes : ByteArray} {ret : Option FieldType} {Ts wy : List Cond} {rm : Room} {As : List Value} {b ci q0 : Nat} {fs : List Value} {T : u_T} {N : Nat} (hC : CallFix p m c cc nL s args Ts own) (hM : Kx l y wy rm dC dI cI cZ (.ref b :: As) w ex) (cw : CallW R s args own C index y bytes maxL ret wy rm 1 6 n) (hK : va_K (dC, dI) vwCl (kT cI cZ) s) (hN : kN s) (hZ : kZ A s s.heap) (hP : va_P (dC, dI) vwCl (w ++ wr) H) (hD : va_D A (w ++ wr)) (hS : va_S A s.heap H locs) (hA : ∀ q, s.heap.size ≤ q → A q) (he : w[q0]? = some (b, .inr (ci, fs))) (hc : vwCl[ci]? = some (C, T, N)) (hn : As.length = n) (hl : ls.size = nL) (hr : (rest.map fun v => v.category).sum ≤ 8) (d : decode cc pc = .ok (.invokevirtual index, 3)) {st : List Value} (hst : st = As.reverse ++ .ref b :: rest) (hR : cells + 1 ≤ R.cells ∧ slots + 6 ≤ R.slots)
    (kx : ∀ (E : String) (ce : Cell) (q : Addr) (H1 : Heap) (locs1 : List Loc), ex E → va_P (dC, dI) vwCl (w ++ wr) H1 → va_D A (w ++ wr) → va_S A s.heap H1 locs1 → H1[q]? = some ce → ce.vm = .none → s.vm.findClass E = some ce.cls → vx_W p l e R s m args below meth c H1 locs1 (cells + 1) (slots + 6) Q (F0 m pc ls rest) q) : W p l e R s m args below meth c H locs cells slots Q (F0 m pc ls st) := by
  have hF := k_free (k_leftD hD) hS hA
  refine vx_callv (vx_runV (As := As) (b := b) (rest := rest) hC (hM H.size) cw ⟨kPreX_blind, va_recv hK (k_left hP) hc he, kPreX_at hK (k_left hP) (k_leftD hD) hN hZ hS hA⟩ rfl hn hl hst (lv_room hr) d hR) hS (fun q _ h => hF q h) hF (fun q _ h => hF q h) (fun E ce q u t H1 locs1 ht hvm hp hB hz hk hS1 hcell hv hcl => ?_) (fun u t H1 locs1 ht hvm hp hB hz hk hS1 => absurd hp id)
  obtain ⟨hex, hP1, hD1⟩ := hB
  rw [ht] at hP1
  have h := k_frame hP hD hk hF hP1 hD1
  exact kx E ce q H1 locs1 hex h.1 h.2 hS1 hcell hv hcl
end
theorem Met_ofWH {l : Launch} {y : MethodName} {ws ws' : List Cond} {rm : Room} {Pc : Array Value → State → Prop} {Qc : Array Value → State → Outcome → State → Prop} {mc ms : Nat} {free : Addr → Prop} {cc : ByteArray} {maxL : Nat} {ret : Option FieldType} {hh : List (Nat × Nat × Nat × Nat)}
    (hy : plainName y.cls = true) (hw : ws = Cond.codeWith y cc maxL ret hh :: ws')
    (body : ∀ p e s m args below meth c s₁, BodyLoose p l y (headSpec ws rm) cc maxL ret e s m args below meth c s₁ → c.maxLocals = maxL → Pc args s →
      W p l e (headSpec ws rm).room s m args below meth c s.heap [] 0 0 (MQ below Qc args s mc ms free) (entryFrame m args maxL)) : Met l y ws rm Pc Qc mc ms free := by
  refine MetFree.of_bodyS (code := cc) (maxLocals := maxL) (ret := ret) hy ?_ ?_
  · intro args s m h hn
    obtain ⟨m9, meth, c, hn9, h1, h2, h3, h4, -, h5, h6, -⟩ := Cond.codeWith_spec (atoms_spec (ws := ws) h _ (by rw [hw]; exact List.mem_cons_self))
    cases hn.symm.trans hn9
    exact ⟨meth, c, h1, h2, h3, h4, h5, h6⟩
  · intro p e s m args below meth c s₁ B hml hP _
    have hh0 : s₁.heap = s.heap := by rw [B.state]; rfl
    obtain ⟨t, a1, o, b1, b2, b3⟩ := body p e s m args below meth c s₁ B hml hP s₁ hh0 (Stand.of_body B)
    exact ⟨t, o, a1, b1, b2, b3⟩
theorem k_sub3 {dC : Nat → ClassId} {dI : Nat → Nat → Nat} {cI cZ cL : ClassId} {s : State} (h : va_K (dC, dI) vwCl (kT3 cI cZ cL) s) : va_K (dC, dI) vwCl (kT cI cZ) s := h.sub [0, 1] rfl
/-- the law's helper of a call that returns v: 0, and v in the cell of the answers -/
def Hok (l : Launch) (y : MethodName) (ws : List Cond) (rm : Room) (dC : Nat → ClassId) (dI : Nat → Nat → Nat) (cI cZ cL : ClassId) (av : List Value) (w w2 : va_W) : Prop := ∀ sz : Nat, Met l y ws rm (va_Pc av (kPre3 dC dI cI cZ cL w sz)) (va_Qi (fun r (_ : Unit) => r = 0) (kBeh dC dI (va_A w sz) w2) (va_A w sz)) 0 0 (va_A w sz)
/-- of a call that throws: its number -/
def Hbad (l : Launch) (y : MethodName) (ws : List Cond) (rm : Room) (dC : Nat → ClassId) (dI : Nat → Nat → Nat) (cI cZ cL : ClassId) (av : List Value) (w : va_W) (k : Int32) : Prop := ∀ sz : Nat, Met l y ws rm (va_Pc av (kPre3X dC dI cI cZ cL w sz)) (va_Qi (fun r (_ : Unit) => r = k) (kBeh dC dI (va_A w sz) w) (va_A w sz)) 1 6 (va_A w sz)
theorem h_enter {l : Launch} {y : MethodName} {ws ws' : List Cond} {rm : Room} {dC : Nat → ClassId} {dI : Nat → Nat → Nat} {cI cZ cL : ClassId} {av : List Value} {w w2 : va_W} {cc : ByteArray} {maxL : Nat} {hh : List (Nat × Nat × Nat × Nat)} (hy : plainName y.cls = true) (hw : ws = Cond.codeWith y cc maxL (some .int) hh :: ws') (hn : (lg_sl av).length ≤ maxL)
    (body : ∀ (p : Program) (e : Env) (s : State) (m : MethodId) (args : Array Value) (below : List Frame) (meth : Method) (c : Code) (A : Nat → Prop) (ls : Array Slot) (Q : State → Prop), CallFix p m c cc maxL s args ws y.cls → va_K (dC, dI) vwCl (kT3 cI cZ cL) s → va_P (dC, dI) vwCl w s.heap → va_D A w → va_S A s.heap s.heap [] → (∀ q, s.heap.size ≤ q → A q) → lv_has ls maxL (lv_args 0 av) →
      (∀ (H : Heap) (locs : List Loc) (pc : Nat) (ls : Array Slot), va_S A s.heap H locs → va_P (dC, dI) vwCl w2 H → va_D A w2 → decode cc pc = .ok (.ireturn, 1) → W p l e rm s m args below meth c H locs 0 0 Q (F0 m pc ls [.int 0])) →
      W p l e rm s m args below meth c s.heap [] 0 0 Q (F0 m 0 ls [])) : Hok l y ws rm dC dI cI cZ cL av w w2 := by
  intro sz
  refine Met_ofWH (cc := cc) (maxL := maxL) (ret := some .int) hy hw ?_
  intro p e s m args below meth c s₁ B hml hv
  obtain ⟨rfl, hsz, hP, hK, hD0⟩ := hv
  subst hsz
  have hl := lv_entry av (n := maxL) hn
  rw [lg_entry_eq]
  exact body p e s m _ below meth c _ _ _ ⟨B.exec, B.bytes, hml, findClass_of_methodNamed B.named, atoms_spec (ws := ws) B.pre⟩ hK hP (hD0.self (sz := s.heap.size)) va_S.rf (fun q h => Or.inr h) hl (fun H locs pc ls hS hP hD d => W.iret (v := 0) B.exec B.bytes B.returns (fun t ht hW => ⟨⟨0, (), rfl, rfl, by rw [ht]; exact hP, hD⟩, hS.F ht⟩) hS.2.2 d B.notSynchronized)
theorem h_enterX {l : Launch} {y : MethodName} {ws ws' : List Cond} {rm : Room} {dC : Nat → ClassId} {dI : Nat → Nat → Nat} {cI cZ cL : ClassId} {av : List Value} {w : va_W} {k : Int32} {cc : ByteArray} {maxL : Nat} {hh : List (Nat × Nat × Nat × Nat)} (hy : plainName y.cls = true) (hw : ws = Cond.codeWith y cc maxL (some .int) hh :: ws') (hn : (lg_sl av).length ≤ maxL)
    (body : ∀ (p : Program) (e : Env) (s : State) (m : MethodId) (args : Array Value) (below : List Frame) (meth : Method) (c : Code) (A : Nat → Prop) (ls : Array Slot) (Q : State → Prop), CallFix p m c cc maxL s args ws y.cls → c.exceptionTable.toList = tableOf hh → va_K (dC, dI) vwCl (kT3 cI cZ cL) s → kN s → kZ A s s.heap → va_P (dC, dI) vwCl w s.heap → va_D A w → va_S A s.heap s.heap [] → (∀ q, s.heap.size ≤ q → A q) → lv_has ls maxL (lv_args 0 av) →
      (∀ (H : Heap) (locs : List Loc) (pc : Nat) (ls : Array Slot) (r : Int32), va_S A s.heap H locs → va_P (dC, dI) vwCl w H → va_D A w → r = k → decode cc pc = .ok (.ireturn, 1) → W p l e rm s m args below meth c H locs 1 6 Q (F0 m pc ls [.int r])) →
      W p l e rm s m args below meth c s.heap [] 0 0 Q (F0 m 0 ls [])) : Hbad l y ws rm dC dI cI cZ cL av w k := by
  intro sz
  refine Met_ofWH (cc := cc) (maxL := maxL) (ret := some .int) hy hw ?_
  intro p e s m args below meth c s₁ B hml hv
  obtain ⟨rfl, ⟨hsz, hP, hK, hD0⟩, hN, hZ⟩ := hv
  subst hsz
  have hl := lv_entry av (n := maxL) hn
  rw [lg_entry_eq]
  have hts := atoms_spec (ws := ws) B.pre
  exact body p e s m _ below meth c _ _ _ ⟨B.exec, B.bytes, hml, findClass_of_methodNamed B.named, hts⟩ (vx_table (x := y) B (hts _ (by rw [hw]; exact List.mem_cons_self))) hK hN hZ hP (hD0.self (sz := s.heap.size)) va_S.rf (fun q h => Or.inr h) hl (fun H locs pc ls r hS hP hD hr d => W.iret (v := r) B.exec B.bytes B.returns (fun t ht hW => ⟨⟨r, (), rfl, hr, by rw [ht]; exact hP, hD⟩, hS.F ht⟩) hS.2.2 d B.notSynchronized)
theorem vpc0_1 : vp_in 0 1 := by unfold vp_in; decide
