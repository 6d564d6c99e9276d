/-- a method of the law: it answers v, and the world behind it is one of which B holds -/
def Lk (l : Launch) (y : MethodName) (ws : List Cond) (rm : Room) (dC : Nat → ClassId) (dI : Nat → Nat → Nat) (cI cZ : ClassId) (av : List Value) (w : va_W) (v : Int32) (B : va_W → Prop) (mc ms : Nat) : Prop := ∀ sz : Nat, Met l y ws rm (va_Pc av (kPreX dC dI cI cZ w sz)) (va_Qi (fun r (_ : va_W) => r = v) (fun w2 t => B w2 ∧ va_P (dC, dI) vwCl w2 t.heap ∧ va_D (va_A w sz) w2) (va_A w sz)) mc ms (va_A w sz)
theorem Met_ofWH {l : Launch} {y : MethodName} {ws ws' : List Cond} {rm : Room} {Pc : Array Value → State → Prop} {Qc : Array Value → State → Outcome → State → Prop} {mc ms : Nat} {free : Addr → Prop} {cc : ByteArray} {maxL : Nat} {ret : Option FieldType} {hh : List (Nat × Nat × Nat × Nat)}
    (hy : plainName y.cls = true) (hw : ws = Cond.codeWith y cc maxL ret hh :: ws')
    (body : ∀ p e s m args below meth c s₁, BodyLoose p l y (headSpec ws rm) cc maxL ret e s m args below meth c s₁ → c.maxLocals = maxL → Pc args s →
      W p l e (headSpec ws rm).room s m args below meth c s.heap [] 0 0 (MQ below Qc args s mc ms free) (entryFrame m args maxL)) : Met l y ws rm Pc Qc mc ms free := by
  refine MetFree.of_bodyS (code := cc) (maxLocals := maxL) (ret := ret) hy ?_ ?_
  · intro args s m h hn
    obtain ⟨m9, meth, c, hn9, h1, h2, h3, h4, -, h5, h6, -⟩ := Cond.codeWith_spec (atoms_spec (ws := ws) h _ (by rw [hw]; exact List.mem_cons_self))
    cases hn.symm.trans hn9
    exact ⟨meth, c, h1, h2, h3, h4, h5, h6⟩
  · intro p e s m args below meth c s₁ B hml hP _
    have hh0 : s₁.heap = s.heap := by rw [B.state]; rfl
    obtain ⟨t, a1, o, b1, b2, b3⟩ := body p e s m args below meth c s₁ B hml hP s₁ hh0 (Stand.of_body B)
    exact ⟨t, o, a1, b1, b2, b3⟩
theorem lk_enter {l : Launch} {y : MethodName} {ws ws' : List Cond} {rm : Room} {dC : Nat → ClassId} {dI : Nat → Nat → Nat} {cI cZ : ClassId} {av : List Value} {w : va_W} {B : va_W → Prop} {mc ms : Nat} {cc : ByteArray} {maxL : Nat} (hy : plainName y.cls = true) (hw : ws = Cond.code y cc maxL (some .boolean) :: ws') (hn : (lg_sl av).length ≤ maxL)
    (body : ∀ (p : Program) (e : Env) (s : State) (m : MethodId) (args : Array Value) (below : List Frame) (meth : Method) (c : Code) (A : Nat → Prop) (ls : Array Slot) (Q : State → Prop), CallFix p m c cc maxL s args ws y.cls → va_K (dC, dI) vwCl (kT cI cZ) s → kN s → kZ A s s.heap → va_P (dC, dI) vwCl w s.heap → va_D A w → va_S A s.heap s.heap [] → (∀ q, s.heap.size ≤ q → A q) → lv_has ls maxL (lv_args 0 av) →
      (∀ (H : Heap) (locs : List Loc) (w2 : va_W) (pc : Nat) (ls : Array Slot), B w2 → va_S A s.heap H locs → va_P (dC, dI) vwCl w2 H → va_D A w2 → decode cc pc = .ok (.ireturn, 1) → W p l e rm s m args below meth c H locs mc ms Q (F0 m pc ls [.int 1])) →
      W p l e rm s m args below meth c s.heap [] 0 0 Q (F0 m 0 ls [])) : Lk l y ws rm dC dI cI cZ av w 1 B mc ms := by
  intro sz
  refine Met.ofW (cc := cc) (maxL := maxL) (ret := some .boolean) hy hw ?_
  intro p e s m args below meth c s₁ B hml hv
  obtain ⟨rfl, ⟨hsz, hP, hK, hD0⟩, hN, hZ⟩ := hv
  subst hsz
  have hl := lv_entry av (n := maxL) hn
  rw [lg_entry_eq]
  exact body p e s m _ below meth c _ _ _ ⟨B.exec, B.bytes, hml, findClass_of_methodNamed B.named, atoms_spec (ws := ws) B.pre⟩ hK hN hZ hP (hD0.self (sz := s.heap.size)) va_S.rf (fun q h => Or.inr h) hl (fun H locs w2 pc ls hB hS hP hD d => W.zret (v := 1) B.exec B.bytes B.returns rfl (fun t ht hW => ⟨⟨1, w2, rfl, rfl, hB, by rw [ht]; exact hP, hD⟩, hS.F ht⟩) hS.2.2 d B.notSynchronized)
theorem lk_enterH {l : Launch} {y : MethodName} {ws ws' : List Cond} {rm : Room} {dC : Nat → ClassId} {dI : Nat → Nat → Nat} {cI cZ : ClassId} {av : List Value} {w : va_W} {v : Int32} {B : va_W → Prop} {mc ms : Nat} {cc : ByteArray} {maxL : Nat} {hh : List (Nat × Nat × Nat × Nat)} (hy : plainName y.cls = true) (hw : ws = Cond.codeWith y cc maxL (some .int) hh :: ws') (hn : (lg_sl av).length ≤ maxL)
    (body : ∀ (p : Program) (e : Env) (s : State) (m : MethodId) (args : Array Value) (below : List Frame) (meth : Method) (c : Code) (A : Nat → Prop) (ls : Array Slot) (Q : State → Prop), CallFix p m c cc maxL s args ws y.cls → c.exceptionTable.toList = tableOf hh → va_K (dC, dI) vwCl (kT cI cZ) s → kN s → kZ A s s.heap → va_P (dC, dI) vwCl w s.heap → va_D A w → va_S A s.heap s.heap [] → (∀ q, s.heap.size ≤ q → A q) → lv_has ls maxL (lv_args 0 av) →
      (∀ (H : Heap) (locs : List Loc) (w2 : va_W) (pc : Nat) (ls : Array Slot) (r : Int32), B w2 → va_S A s.heap H locs → va_P (dC, dI) vwCl w2 H → va_D A w2 → r = v → decode cc pc = .ok (.ireturn, 1) → W p l e rm s m args below meth c H locs mc ms Q (F0 m pc ls [.int r])) →
      W p l e rm s m args below meth c s.heap [] 0 0 Q (F0 m 0 ls [])) : Lk l y ws rm dC dI cI cZ av w v B mc ms := by
  intro sz
  refine Met_ofWH (cc := cc) (maxL := maxL) (ret := some .int) hy hw ?_
  intro p e s m args below meth c s₁ B hml hv
  obtain ⟨rfl, ⟨hsz, hP, hK, hD0⟩, hN, hZ⟩ := hv
  subst hsz
  have hl := lv_entry av (n := maxL) hn
  rw [lg_entry_eq]
  have hts := atoms_spec (ws := ws) B.pre
  exact body p e s m _ below meth c _ _ _ ⟨B.exec, B.bytes, hml, findClass_of_methodNamed B.named, hts⟩ (vx_table (x := y) B (hts _ (by rw [hw]; exact List.mem_cons_self))) hK hN hZ hP (hD0.self (sz := s.heap.size)) va_S.rf (fun q h => Or.inr h) hl (fun H locs w2 pc ls r hB hS hP hD hr d => W.iret (v := r) B.exec B.bytes B.returns (fun t ht hW => ⟨⟨r, w2, rfl, hr, hB, by rw [ht]; exact hP, hD⟩, hS.F ht⟩) hS.2.2 d B.notSynchronized)
section
variable {p : Program} {l : Launch} {e : Env} {R : Room} {s : State} {m : MethodId} {args : Array Value} {below : List Frame} {meth : Method} {c : Code} {H : Heap} {locs : List Loc} {cells slots : Nat} {Q : State → Prop}
variable {cc : ByteArray} {pc : Nat} {ls : Array Slot} {rest : List Value} {dC : Nat → ClassId} {dI : Nat → Nat → Nat} {cI cZ : ClassId} {A : Nat → Prop} {w : va_W} {v : Int32} {B : va_W → Prop} {mc ms : Nat}
/-- a call of a method of the law -/
theorem lk_call {own : String} {index nL maxL n : Nat} {y : MethodName} {bytes : ByteArray} {ret : Option FieldType} {Ts wy : List Cond} {rm : Room} {As : List Value} (hC : CallFix p m c cc nL s args Ts own) (hM : Lk l y wy rm dC dI cI cZ As w v B mc ms) (cw : CallB R s args own index y bytes maxL ret wy rm mc ms n ∧ (Cond.static y).before args s = true) (hK : va_K (dC, dI) vwCl (kT cI cZ) s) (hN : kN s) (hZ : kZ A s s.heap) (hP : va_P (dC, dI) vwCl w H) (hD : va_D A w) (hS : va_S A s.heap H locs) (hA : ∀ q, s.heap.size ≤ q → A q) (hn : As.length = n) (hl : ls.size = nL) (hr : (rest.map fun v => v.category).sum ≤ 8) (d : decode cc pc = .ok (.invokestatic index, 3)) {st : List Value} (hst : st = As.reverse ++ rest) (hR : cells + mc ≤ R.cells ∧ slots + ms ≤ R.slots)
    (kk : ∀ (w2 : va_W) (H1 : Heap) (locs1 : List Loc), B w2 → va_P (dC, dI) vwCl w2 H1 → va_D A w2 → va_S A s.heap H1 locs1 → W p l e R s m args below meth c H1 locs1 (cells + mc) (slots + ms) Q (F0 m (pc + 3) ls (.int v :: rest))) : W p l e R s m args below meth c H locs cells slots Q (F0 m pc ls st) := by
  have hF := k_free hD hS hA
  refine va_calli (va_runS (As := As) (rest := rest) hC (hM H.size) cw ⟨kPreX_blind, kPreX_at hK hP hD hN hZ hS hA⟩ rfl hn hl hst (lv_room hr) d hR) hS (fun q _ h => hF q h) hF (fun r u t H1 locs1 ht hvm hw hB hz hk hS1 => ?_)
  subst hw
  obtain ⟨hB0, hP1, hD1⟩ := hB
  rw [ht] at hP1
  exact kk u H1 locs1 hB0 hP1 (hD1.weaken (fun _ q _ h => hF _ h)) hS1
/-- of one with a table -/
theorem lk_callH {own : String} {index nL maxL n : Nat} {y : MethodName} {bytes : ByteArray} {ret : Option FieldType} {hh : List (Nat × Nat × Nat × Nat)} {Ts wy : List Cond} {rm : Room} {As : List Value} (hC : CallFix p m c cc nL s args Ts own) (hM : Lk l y wy rm dC dI cI cZ As w v B mc ms) (cw : vx_CSW R s args own index y bytes maxL ret hh wy rm mc ms n) (hK : va_K (dC, dI) vwCl (kT cI cZ) s) (hN : kN s) (hZ : kZ A s s.heap) (hP : va_P (dC, dI) vwCl w H) (hD : va_D A w) (hS : va_S A s.heap H locs) (hA : ∀ q, s.heap.size ≤ q → A q) (hn : As.length = n) (hl : ls.size = nL) (hr : (rest.map fun v => v.category).sum ≤ 8) (d : decode cc pc = .ok (.invokestatic index, 3)) {st : List Value} (hst : st = As.reverse ++ rest) (hR : cells + mc ≤ R.cells ∧ slots + ms ≤ R.slots)
    (kk : ∀ (w2 : va_W) (H1 : Heap) (locs1 : List Loc), B w2 → va_P (dC, dI) vwCl w2 H1 → va_D A w2 → va_S A s.heap H1 locs1 → W p l e R s m args below meth c H1 locs1 (cells + mc) (slots + ms) Q (F0 m (pc + 3) ls (.int v :: rest))) : W p l e R s m args below meth c H locs cells slots Q (F0 m pc ls st) := by
  have hF := k_free hD hS hA
  refine va_calli (vx_runSW (As := As) (rest := rest) hC (hM H.size) cw ⟨kPreX_blind, kPreX_at hK hP hD hN hZ hS hA⟩ rfl hn hl hst (lv_room hr) d hR) hS (fun q _ h => hF q h) hF (fun r u t H1 locs1 ht hvm hw hB hz hk hS1 => ?_)
  subst hw
  obtain ⟨hB0, hP1, hD1⟩ := hB
  rw [ht] at hP1
  exact kk u H1 locs1 hB0 hP1 (hD1.weaken (fun _ q _ h => hF _ h)) hS1
/-- a call of the park: its answer by another name, what it works out by any -/
theorem lk_park {own C : String} {index nL maxL n : Nat} {y : MethodName} {bytes : ByteArray} {ret : Option FieldType} {Ts wy : List Cond} {rm : Room} {As : List Value} {h : Nat} {a : Nat → Nat} {ph gr ne ap le fu : AR} {pc0 gd ri nw tk sv : Int32} {wa gi lo tu : AR} {ph' gr' ne' ap' le' fu' : AR} {pc' gd' ri' nw' tk' sv' : Int32} {wa' gi' lo' tu' : AR} {v0 : Int32} {T : u_T} {N : Nat}
    (hC : CallFix p m c cc nL s args Ts own) (hM : Ki l y wy rm dC dI cI cZ (.ref h :: As) (xW cI cZ h a ph gr ne ap le fu pc0 gd ri nw tk sv wa gi lo tu) (xW cI cZ h a ph' gr' ne' ap' le' fu' pc' gd' ri' nw' tk' sv' wa' gi' lo' tu') v0) (hv : v0 = v) (cw : CallW R s args own C index y bytes maxL ret wy rm 0 0 n) (hK : va_K (dC, dI) vwCl (kT cI cZ) s) (hP : va_P (dC, dI) vwCl (xW cI cZ h a ph gr ne ap le fu pc0 gd ri nw tk sv wa gi lo tu) H) (hD : va_D A (xW cI cZ h a ph gr ne ap le fu pc0 gd ri nw tk sv wa gi lo tu)) (hS : va_S A s.heap H locs) (hA : ∀ q, s.heap.size ≤ q → A q) (hc : vwCl[0]? = some (C, T, N)) (hn : As.length = n) (hl : ls.size = nL) (hr : (rest.map fun v => v.category).sum ≤ 8) (d : decode cc pc = .ok (.invokevirtual index, 3)) {st : List Value} (hst : st = As.reverse ++ .ref h :: rest) (hR : cells ≤ R.cells ∧ slots ≤ R.slots)
    (kk : ∀ (wa gi lo tu : AR) (H1 : Heap) (locs1 : List Loc), va_P (dC, dI) vwCl (xW cI cZ h a ph' gr' ne' ap' le' fu' pc' gd' ri' nw' tk' sv' wa gi lo tu) H1 → va_D A (xW cI cZ h a ph' gr' ne' ap' le' fu' pc' gd' ri' nw' tk' sv' wa gi lo tu) → va_S A s.heap H1 locs1 → W p l e R s m args below meth c H1 locs1 cells slots Q (F0 m (pc + 3) ls (.int v :: rest))) : W p l e R s m args below meth c H locs cells slots Q (F0 m pc ls st) := by
  subst hv
  exact k_calli (q0 := 0) hC hM cw hK hP hD hS hA rfl hc hn hl hr d hst hR (fun H1 locs1 hP1 hD1 hS1 => kk _ _ _ _ H1 locs1 hP1 hD1 hS1)
end
