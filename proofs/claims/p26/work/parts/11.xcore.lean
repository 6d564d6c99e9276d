abbrev nIA : String := "java/lang/IllegalArgumentException"
abbrev nIS : String := "java/lang/IllegalStateException"
abbrev nIO : String := "java/lang/IndexOutOfBoundsException"
abbrev nms : List String := ["java/lang/RuntimeException", "java/lang/Exception"]
/-- what calls carry along: words that throwing and catching want, and the texts -/
def kN (U : State) : Prop := (va_Nw (.declares (Bundle.initS "java/lang/RuntimeException")) U ∧ va_Nw (.declares (Bundle.initS "java/lang/Exception")) U ∧ va_Nw (.declares (Bundle.initS Bundle.tN)) U) ∧ (va_Nw (.castable nIA nIA) U ∧ va_Nw (.castable nIS nIS) U ∧ va_Nw (.castable nIO nIO) U) ∧ (va_Nc nIA nIO U ∧ va_Nc nIS nIO U ∧ va_Nc nIS nIA U) ∧ (∃ a, vk_R RX0 120 "a value is out of its range" a U) ∧ (∃ a, vk_R RX0 123 "there is no such phase" a U) ∧ (∃ a, vk_R RX0 127 "there is no such point" a U) ∧ (∃ a, vk_R RX0 130 "there is no car at the point" a U) ∧ (∃ a, vk_R RX0 60 "there is no room for a further point" a U) ∧ (∃ a, vk_R RX0 72 "there is a car at the point" a U)
theorem kN_warm {s U : State} (hW : s.WarmedH U.vm) (h : kN s) : kN U := by
  obtain ⟨⟨a1, a2, a3⟩, ⟨b1, b2, b3⟩, ⟨c1, c2, c3⟩, ⟨z1, d1⟩, ⟨z2, d2⟩, ⟨z3, d3⟩, ⟨z4, d4⟩, ⟨z5, d5⟩, ⟨z6, d6⟩⟩ := h
  exact ⟨⟨va_Nw.warmD hW a1, va_Nw.warmD hW a2, va_Nw.warmD hW a3⟩, ⟨va_Nw.warmC hW b1, va_Nw.warmC hW b2, va_Nw.warmC hW b3⟩, ⟨va_Nc.moved hW.alike c1, va_Nc.moved hW.alike c2, va_Nc.moved hW.alike c3⟩, ⟨z1, vk_R.warm hW d1⟩, ⟨z2, vk_R.warm hW d2⟩, ⟨z3, vk_R.warm hW d3⟩, ⟨z4, vk_R.warm hW d4⟩, ⟨z5, vk_R.warm hW d5⟩, ⟨z6, vk_R.warm hW d6⟩⟩
def kZ (A : Nat → Prop) (U : State) (H : Heap) : Prop := vx_Zq Bundle.tN "UNASSIGNED_STACK" Bundle.steD A U H ∧ vx_Zq Bundle.tN "SUPPRESSED_SENTINEL" Bundle.listD A U H
theorem kZ_call {A B : Nat → Prop} {s U : State} {H : Heap} {locs : List Loc} (h : kZ A s s.heap) (hS : va_S A s.heap H locs) (hU : U.heap = H) (hvm : s.vm.Alike U.vm) (hAB : ∀ q, B q → A q) : kZ B U U.heap := by
  rw [hU]
  exact ⟨vx_Zq.moved hvm ((h.1.kept hS.2.1).narrow hAB), vx_Zq.moved hvm ((h.2.kept hS.2.1).narrow hAB)⟩
def kPreX (dC : Nat → ClassId) (dI : Nat → Nat → Nat) (cI cZ : ClassId) (w : va_W) (sz : Nat) (U : State) : Prop := kPre dC dI cI cZ w sz U ∧ kN U ∧ kZ (va_A w sz) U U.heap
theorem kPreX_blind {dC : Nat → ClassId} {dI : Nat → Nat → Nat} {cI cZ : ClassId} {w : va_W} {sz : Nat} {av : List Value} : FrameBlind (va_Pc av (kPreX dC dI cI cZ w sz)) := fun a U g mk q => by
  obtain ⟨q0, ⟨q1, qP, qK, qD⟩, hN, hZ⟩ := q
  exact ⟨q0, ⟨q1, qP, va_K.moved (u := U) (U := U.calling g mk a) (Vm.Alike.refl U.vm) qK, qD⟩, kN_warm (s := U) (U := U.calling g mk a) (State.WarmedH.refl U) hN, vx_Zq.moved (u := U) (U := U.calling g mk a) (Vm.Alike.refl U.vm) hZ.1, vx_Zq.moved (u := U) (U := U.calling g mk a) (Vm.Alike.refl U.vm) hZ.2⟩
theorem kPreX_at {dC : Nat → ClassId} {dI : Nat → Nat → Nat} {cI cZ : ClassId} {w : va_W} {A : Nat → Prop} {av : List Value} {s : State} {H : Heap} {locs : List Loc} (hK : va_K (dC, dI) vwCl (kT cI cZ) s) (hP : va_P (dC, dI) vwCl w H) (hD : va_D A w) (hN : kN s) (hZ : kZ A s s.heap) (hS : va_S A s.heap H locs) (hA : ∀ q, s.heap.size ≤ q → A q) : ∀ U : State, U.heap = H → s.WarmedH U.vm → va_Pc av (kPreX dC dI cI cZ w H.size) av.toArray U := fun U hU hW => ⟨rfl, (kPre_at (av := av) hK hP hD U hU hW).2, kN_warm hW hN, kZ_call hZ hS hU hW.alike (k_free hD hS hA)⟩
/-- a method that throws, an E of which ex holds, and leaves the world as it was -/
def Kx (l : Launch) (y : MethodName) (ws : List Cond) (rm : Room) (dC : Nat → ClassId) (dI : Nat → Nat → Nat) (cI cZ : ClassId) (av : List Value) (w : va_W) (ex : String → Prop) : Prop := ∀ sz : Nat, vx_Met l y ws rm (va_Pc av (kPreX dC dI cI cZ w sz)) (va_Qv (fun (_ : Unit) => False) (fun _ _ => True) (va_A w sz)) (vx_X (fun (_ : Unit) => True) (fun E u t => ex E ∧ kBeh dC dI (va_A w sz) w u t) (va_A w sz)) 1 6 (va_A w sz)
section
variable {p : Program} {l : Launch} {e : Env} {R : Room} {s : State} {m : MethodId} {args : Array Value} {below : List Frame} {meth : Method} {c : Code} {H : Heap} {locs : List Loc} {cells slots : Nat} {Q : State → Prop}
variable {cc : ByteArray} {pc : Nat} {ls : Array Slot} {rest : List Value} {dC : Nat → ClassId} {dI : Nat → Nat → Nat} {cI cZ : ClassId} {A : Nat → Prop} {H0 : Heap} {w w2 : va_W} {ex : String → Prop}
theorem kx_lt {D : va_G} {cl : List vw_C} {ws : va_W} {H1 H2 : Heap} (h : va_P D cl ws H1) (hk : ∀ q : Nat, q < H1.size → H2[q]? = H1[q]?) : va_P D cl ws H2 := h.kept (fun k q hq => hk _ (vx_lt h hq))
/-- a call that throws -/
theorem kx_callV {own C : String} {index nL maxL n : Nat} {y : MethodName} {bytes : ByteArray} {ret : Option FieldType} {Ts wy : List Cond} {rm : Room} {As : List Value} {b ci q0 : Nat} {fs : List Value} {T : u_T} {N : Nat} (hC : CallFix p m c cc nL s args Ts own) (hM : Kx l y wy rm dC dI cI cZ (.ref b :: As) w ex) (cw : CallW R s args own C index y bytes maxL ret wy rm 1 6 n) (hK : va_K (dC, dI) vwCl (kT cI cZ) s) (hN : kN s) (hZ : kZ A s s.heap) (hP : va_P (dC, dI) vwCl w H) (hD : va_D A w) (hS : va_S A s.heap H locs) (hA : ∀ q, s.heap.size ≤ q → A q) (he : w[q0]? = some (b, .inr (ci, fs))) (hc : vwCl[ci]? = some (C, T, N)) (hn : As.length = n) (hl : ls.size = nL) (hr : (rest.map fun v => v.category).sum ≤ 8) (d : decode cc pc = .ok (.invokevirtual index, 3)) {st : List Value} (hst : st = As.reverse ++ .ref b :: rest) (hR : cells + 1 ≤ R.cells ∧ slots + 6 ≤ R.slots)
    (kx : ∀ (E : String) (ce : Cell) (q : Addr) (H1 : Heap) (locs1 : List Loc), ex E → va_P (dC, dI) vwCl w H1 → va_D A w → va_S A s.heap H1 locs1 → H1[q]? = some ce → ce.vm = .none → s.vm.findClass E = some ce.cls → vx_W p l e R s m args below meth c H1 locs1 (cells + 1) (slots + 6) Q (F0 m pc ls rest) q) : W p l e R s m args below meth c H locs cells slots Q (F0 m pc ls st) := by
  have hF := k_free hD hS hA
  refine vx_callv (vx_runV (As := As) (b := b) (rest := rest) hC (hM H.size) cw ⟨kPreX_blind, va_recv hK hP hc he, kPreX_at hK hP hD hN hZ hS hA⟩ rfl hn hl hst (lv_room hr) d hR) hS (fun q _ h => hF q h) hF (fun q _ h => hF q h) (fun E ce q u t H1 locs1 ht hvm hp hB hz hk hS1 hcell hv hcl => ?_) (fun u t H1 locs1 ht hvm hp hB hz hk hS1 => absurd hp id)
  obtain ⟨hex, hP1, hD1⟩ := hB
  rw [ht] at hP1
  exact kx E ce q H1 locs1 hex hP1 (hD1.weaken (fun _ q _ h => hF _ h)) hS1 hcell hv hcl
theorem kx_callS {own : String} {index nL maxL n : Nat} {y : MethodName} {bytes : ByteArray} {ret : Option FieldType} {Ts wy : List Cond} {rm : Room} {As : List Value} (hC : CallFix p m c cc nL s args Ts own) (hM : Kx l y wy rm dC dI cI cZ As w ex) (cw : CallB R s args own index y bytes maxL ret wy rm 1 6 n ∧ (Cond.static y).before args s = true) (hK : va_K (dC, dI) vwCl (kT cI cZ) s) (hN : kN s) (hZ : kZ A s s.heap) (hP : va_P (dC, dI) vwCl w H) (hD : va_D A w) (hS : va_S A s.heap H locs) (hA : ∀ q, s.heap.size ≤ q → A q) (hn : As.length = n) (hl : ls.size = nL) (hr : (rest.map fun v => v.category).sum ≤ 8) (d : decode cc pc = .ok (.invokestatic index, 3)) {st : List Value} (hst : st = As.reverse ++ rest) (hR : cells + 1 ≤ R.cells ∧ slots + 6 ≤ R.slots)
    (kx : ∀ (E : String) (ce : Cell) (q : Addr) (H1 : Heap) (locs1 : List Loc), ex E → va_P (dC, dI) vwCl w H1 → va_D A w → va_S A s.heap H1 locs1 → H1[q]? = some ce → ce.vm = .none → s.vm.findClass E = some ce.cls → vx_W p l e R s m args below meth c H1 locs1 (cells + 1) (slots + 6) Q (F0 m pc ls rest) q) : W p l e R s m args below meth c H locs cells slots Q (F0 m pc ls st) := by
  have hF := k_free hD hS hA
  refine vx_callv (vx_runS (As := As) (rest := rest) hC (hM H.size) cw ⟨kPreX_blind, kPreX_at hK hP hD hN hZ hS hA⟩ rfl hn hl hst (lv_room hr) d hR) hS (fun q _ h => hF q h) hF (fun q _ h => hF q h) (fun E ce q u t H1 locs1 ht hvm hp hB hz hk hS1 hcell hv hcl => ?_) (fun u t H1 locs1 ht hvm hp hB hz hk hS1 => absurd hp id)
  obtain ⟨hex, hP1, hD1⟩ := hB
  rw [ht] at hP1
  exact kx E ce q H1 locs1 hex hP1 (hD1.weaken (fun _ q _ h => hF _ h)) hS1 hcell hv hcl
/-- a call of a static method that leaves v behind, behind which nothing is on the stack (void) -/
theorem k_callsv {own : String} {index nL maxL n : Nat} {y : MethodName} {bytes : ByteArray} {ret : Option FieldType} {Ts wy : List Cond} {rm : Room} {As : List Value} (hC : CallFix p m c cc nL s args Ts own) (hM : Kv l y wy rm dC dI cI cZ As w w) (cw : CallB R s args own index y bytes maxL ret wy rm 0 0 n ∧ (Cond.static y).before args s = true) (hK : va_K (dC, dI) vwCl (kT cI cZ) s) (hP : va_P (dC, dI) vwCl w H) (hD : va_D A w) (hS : va_S A H0 H locs) (hA : ∀ q, H0.size ≤ q → A q) (hn : As.length = n) (hl : ls.size = nL) (hr : (rest.map fun v => v.category).sum ≤ 8) (d : decode cc pc = .ok (.invokestatic index, 3)) {st : List Value} (hst : st = As.reverse ++ rest) (hR : cells ≤ R.cells ∧ slots ≤ R.slots)
    (kk : ∀ (H1 : Heap) (locs1 : List Loc), va_P (dC, dI) vwCl w H1 → va_D A w → va_S A H0 H1 locs1 → W p l e R s m args below meth c H1 locs1 cells slots Q (F0 m (pc + 3) ls rest)) : W p l e R s m args below meth c H locs cells slots Q (F0 m pc ls st) := by
  have hF := k_free hD hS hA
  refine va_callv (va_runS (As := As) (rest := rest) hC (hM H.size) cw ⟨kPre_blind, kPre_at hK hP hD⟩ rfl hn hl hst (lv_room hr) d hR) hS (fun q _ h => hF q h) hF (fun u t H1 locs1 ht hvm hw hB hz hk hS1 => ?_)
  obtain ⟨hP1, hD1⟩ := hB
  rw [ht] at hP1
  exact kk H1 locs1 hP1 (hD1.weaken (fun _ q _ h => hF _ h)) hS1
theorem kx_throw {nL ik is ic : Nat} {Ts : List Cond} {cls text : String} (hC : CallFix p m c cc nL s args Ts RX0) (hl0 : l.stackTraces = false) (hcls : Bundle.fit cls = true) (hk : (Cond.classLink RX0 ik cls).before args s = true) (hini : (Cond.initialized cls).before args s = true) (hstr : ∃ a, vk_R RX0 is text a s) (hat : ∀ w ∈ vx_atS RX0 ic cls nms, w.before args s = true) (hgood : ∀ w ∈ Cond.classLink RX0 ik cls :: Cond.initialized cls :: vx_atS RX0 ic cls nms, vx_ot w = true) (hZ : kZ A s s.heap) (hS : va_S A s.heap H locs) (hl : ls.size = nL)
    (d0 : decode cc pc = .ok (.new ik, 3)) (d3 : decode cc (pc + 3) = .ok (.dup, 1)) (d4 : decode cc (pc + 4) = .ok (.ldc is, 2)) (d6 : decode cc (pc + 6) = .ok (.invokespecial ic, 3)) (d9 : decode cc (pc + 9) = .ok (.athrow, 1)) (htab : ∀ x ∈ c.exceptionTable.toList, False) (hlocks : meth.locks = false) (hRf : 5 < R.frames) (hRl : (rest.map fun v => v.category).sum + 82 ≤ R.locals) (hRc : 1 ≤ R.cells) (hRs : 6 ≤ R.slots) {Qc : Array Value → State → Outcome → State → Prop} (hP : va_P (dC, dI) vwCl w H) (hD : va_D A w) (hex : ex cls) :
    W p l e R s m args below meth c H locs 0 0 (vx_MQ below Qc (vx_X (fun (_ : Unit) => True) (fun E u t => ex E ∧ kBeh dC dI A w u t) A) args s 1 6 A) (F0 m pc ls rest) := by
  obtain ⟨hx, hb, hml, hown, hts⟩ := hC
  obtain ⟨sa, hstr⟩ := hstr
  refine vx_throwS hx hb hl0 hown hcls (names := nms) (by decide) hk hini hstr hat hgood hZ.1 hZ.2 hS (by rw [hml]; exact hl) d0 d3 d4 d6 d9 (fun x hx => absurd (htab x hx) id) hRf hRl (by omega) (by omega) hlocks (fun t hvm h1 h2 => ?_) hS.2.2 (by omega) (by omega)
  refine ⟨(), trivial, ⟨hex, kx_lt hP h2, hD⟩, Nat.le_trans hS.1 h1, fun q hq hn => ?_⟩
  rw [h2 q (Nat.lt_of_lt_of_le hq hS.1)]
  exact hS.2.1 q hq hn
theorem kx_out {pc : Nat} {E : String} {ce : Cell} {q : Addr} {Qc : Array Value → State → Outcome → State → Prop} (htab : ∀ x ∈ c.exceptionTable.toList, False) (hlocks : meth.locks = false) (hcell : H[q]? = some ce) (hv : ce.vm = .none) (hcl : s.vm.findClass E = some ce.cls) (hS : va_S A s.heap H locs) (hP : va_P (dC, dI) vwCl w H) (hD : va_D A w) (hex : ex E) (hc : cells ≤ 1) (hs : slots ≤ 6) :
    vx_W p l e R s m args below meth c H locs cells slots (vx_MQ below Qc (vx_X (fun (_ : Unit) => True) (fun E u t => ex E ∧ kBeh dC dI A w u t) A) args s 1 6 A) (F0 m pc ls rest) q :=
  vx_out (fun x hx => absurd (htab x hx) id) hlocks hcell hv hcl (fun t ht hvm => ⟨(), trivial, ⟨hex, by rw [ht]; exact hP, hD⟩, hS.F ht⟩) hS.2.2 hc hs
end
theorem k_enter_x {l : Launch} {y : MethodName} {ws ws' : List Cond} {rm : Room} {dC : Nat → ClassId} {dI : Nat → Nat → Nat} {cI cZ : ClassId} {av : List Value} {w : va_W} {ex : String → Prop} {cc : ByteArray} {maxL : Nat} {ret : Option FieldType} (hy : plainName y.cls = true) (hw : ws = Cond.code y cc maxL ret :: ws') (hn : (lg_sl av).length ≤ maxL)
    (body : ∀ (p : Program) (e : Env) (s : State) (m : MethodId) (below : List Frame) (meth : Method) (c : Code) (A : Nat → Prop) (ls : Array Slot), CallFix p m c cc maxL s av.toArray ws y.cls → meth.locks = false → (∀ x ∈ c.exceptionTable.toList, False) → va_K (dC, dI) vwCl (kT cI cZ) s → kN s → kZ A s s.heap → va_P (dC, dI) vwCl w s.heap → va_D A w → va_S A s.heap s.heap [] → (∀ q, s.heap.size ≤ q → A q) → lv_has ls maxL (lv_args 0 av) →
      W p l e rm s m av.toArray below meth c s.heap [] 0 0 (vx_MQ below (va_Qv (fun (_ : Unit) => False) (fun _ _ => True) A) (vx_X (fun (_ : Unit) => True) (fun E u t => ex E ∧ kBeh dC dI A w u t) A) av.toArray s 1 6 A) (F0 m 0 ls [])) : Kx l y ws rm dC dI cI cZ av w ex := by
  intro sz
  refine vx_ofW (cc := cc) (maxL := maxL) (ret := ret) hy hw ?_
  intro p e s m args below meth c s₁ B hml htab hv
  obtain ⟨rfl, ⟨hsz, hP, hK, hD0⟩, hN, hZ⟩ := hv
  subst hsz
  have hl := lv_entry av (n := maxL) hn
  rw [lg_entry_eq]
  exact body p e s m below meth c _ _ ⟨B.exec, B.bytes, hml, findClass_of_methodNamed B.named, atoms_spec (ws := ws) B.pre⟩ B.notSynchronized htab hK hN hZ hP (hD0.self (sz := s.heap.size)) va_S.rf (fun q h => Or.inr h) hl
theorem kg_IA : ∀ w ∈ Cond.classLink RX0 118 nIA :: Cond.initialized nIA :: vx_atS RX0 122 nIA nms, vx_ot w = true := by decide +kernel
theorem kg_IO : ∀ w ∈ Cond.classLink RX0 125 nIO :: Cond.initialized nIO :: vx_atS RX0 129 nIO nms, vx_ot w = true := by decide +kernel
theorem kg_IS : ∀ w ∈ Cond.classLink RX0 58 nIS :: Cond.initialized nIS :: vx_atS RX0 62 nIS nms, vx_ot w = true := by decide +kernel
def kB (X : String) : List Cond := [.declares (Bundle.initS "java/lang/RuntimeException"), .declares (Bundle.initS "java/lang/Exception"), .declares (Bundle.initS Bundle.tN), .castable X X]
theorem kb_IA : ∀ w ∈ (vx_atS RX0 122 nIA nms).filter (fun w => !goodWord w), w ∈ kB nIA := by decide +kernel
theorem kb_IO : ∀ w ∈ (vx_atS RX0 129 nIO nms).filter (fun w => !goodWord w), w ∈ kB nIO := by decide +kernel
theorem kb_IS : ∀ w ∈ (vx_atS RX0 62 nIS nms).filter (fun w => !goodWord w), w ∈ kB nIS := by decide +kernel
theorem kB_of {s : State} {args : Array Value} {X : String} (hN : kN s) (hX : va_Nw (.castable X X) s) : ∀ w ∈ kB X, w.before args s = true := vx_c (va_Nw.use rfl hN.1.1) (vx_c (va_Nw.use rfl hN.1.2.1) (vx_c (va_Nw.use rfl hN.1.2.2) (vx_c (va_Nw.use rfl hX) vx_n)))
theorem kat_IA {s : State} {args : Array Value} (hN : kN s) (h : ∀ w ∈ (vx_atS RX0 122 nIA nms).filter goodWord, w.before args s = true) : ∀ w ∈ vx_atS RX0 122 nIA nms, w.before args s = true := vx_hat h kb_IA (kB_of hN hN.2.1.1)
theorem kat_IO {s : State} {args : Array Value} (hN : kN s) (h : ∀ w ∈ (vx_atS RX0 129 nIO nms).filter goodWord, w.before args s = true) : ∀ w ∈ vx_atS RX0 129 nIO nms, w.before args s = true := vx_hat h kb_IO (kB_of hN hN.2.1.2.2)
theorem kat_IS {s : State} {args : Array Value} (hN : kN s) (h : ∀ w ∈ (vx_atS RX0 62 nIS nms).filter goodWord, w.before args s = true) : ∀ w ∈ vx_atS RX0 62 nIS nms, w.before args s = true := vx_hat h kb_IS (kB_of hN hN.2.1.2.1)
theorem nz_le {x : Int32} (h : ¬ x ≤ 0) : ¬ x = 0 := by
  intro e
  rw [e] at h
  exact h (by decide)
