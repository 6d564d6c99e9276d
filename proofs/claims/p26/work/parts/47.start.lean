/-! THE CLAIM OUT OF ONE WALK OF THE LAW'S BODY. Your part is whole_start (and what it stands on); all else here is the same for every law, but numbers. -/
def R_law : String := "ChargeParkLaw"
def lw_P (b : Addr) (xs : List Int32) (args : Array Value) (s : State) : Prop := args = #[.ref b] ∧ s.IntsAt b xs ∧ xs.length ≤ 260 ∧ (Jvm.Cond.and given_1 narrow_1).before args s = true
def lw_Q (_ : Array Value) (s : State) (o : Outcome) (t : State) : Prop := o = .returned (some (.int 1)) ∧ Framed s o t [] 674541 7078002
def lw_Z (below : List Frame) (a : Array Value) (s : State) : State → Prop := fun t => ∃ o, t.status = .running ∧ Ended t below o ∧ lw_Q a s o t
/-- the law's own end, with 1 on the stack, nothing written that was there before, its room as the claim has it -/
theorem lw_ret {p : Program} {l : Launch} {e : Env} {s : State} {m : MethodId} {below : List Frame} {meth : Method} {c : Code} {b : Nat} (hx : p.tables.exec = Jvm.exec) (hb : c.code = code) (hr : meth.sig.returnType = ret) (hlocks : meth.locks = false) {pc : Nat} {H : Heap} {ls : Array Slot} (hdg : decode code pc = .ok (.ireturn, 1)) : W p l e room_1 s m #[Value.ref b] below meth c H [] 674541 7078002 (lw_Z below #[Value.ref b] s) (F0 m pc ls [.int 1]) := by
  intro T hT X
  obtain ⟨fs, hret, hrun, hended, hW, hframe⟩ := X.leave (v := some (.int 1)) (hlocks := hlocks) (fun h => by rw [hr] at h; cases h)
  have hmeth' : T.vm.method? m = some meth := X.method'
  refine ⟨T.setFrames fs, ?_, .returned (some (.int 1)), hrun, hended, rfl, ⟨_, rfl⟩, hW, hframe⟩
  jvm_step X.here [X.here.top, hx, hb, hdg, hmeth', hr, ret, narrow_b1]
  (try refine ⟨rfl, ?_⟩); (try refine ⟨rfl, ?_⟩)
  first | (intro acts; rw [hret _ acts rfl rfl rfl]) | rw [hret _ _ rfl rfl rfl]
  exact Steps.refl _
/-- what holds at the law's entry: the machine, the code, the tables' words (any of lw_tbl by 'hts w (by decide +kernel)'), the script of L ints xs at the cell b, what the Statement gives of the start (any of its parts by flat_of_before) -/
def lw_At (p : Program) (s : State) (m : MethodId) (meth : Method) (c : Code) (b L : Nat) (xs : Nat → Int32) : Prop :=
  p.tables.exec = Jvm.exec ∧ c.code = code ∧ meth.sig.returnType = ret ∧ c.maxLocals = 6 ∧ s.vm.findClass R_law = some m.cls ∧ (∀ w ∈ lw_tbl, w.before #[Value.ref b] s = true) ∧ va_X b L xs s s.heap ∧ b < s.heap.size ∧ meth.locks = false ∧ (Jvm.Cond.and given_1 narrow_1).before #[Value.ref b] s = true
set_option maxHeartbeats 4000000 in
set_option maxRecDepth 100000 in
theorem whole_start {p : Program} {e : Env} {s : State} {m : MethodId} {below : List Frame} {meth : Method} {c : Code} (l : Launch) (hflags : l.flags = flags0) {b L : Nat} {xs : Nat → Int32} (hL : L ≤ 260) (C0 : lw_At p s m meth c b L xs) : W p l e room_1 s m #[Value.ref b] below meth c s.heap [] 0 0 (lw_Z below #[Value.ref b] s) (entryFrame m ([Value.ref b] : List Value).toArray 6) := by
  obtain ⟨hx, hb, hr, hml, hown, hts, hX, hbl, hlocks, hgv⟩ := id C0
  have hs := flat_of_before _ hgv
  have hl0 : l.stackTraces = false := by unfold Launch.stackTraces; rw [hflags]; decide
  have hA : ∀ q : Nat, s.heap.size ≤ q → (fun q : Nat => s.heap.size ≤ q) q := fun _ h => h
  have hN : kN s := by
    refine ⟨⟨?_, ?_, ?_⟩, ⟨?_, ?_, ?_⟩, ⟨?_, ?_, ?_⟩, ?_, ?_, ?_, ?_, ?_, ?_⟩
    · exact va_Nw.of rfl (hts (.declares (Bundle.initS "java/lang/RuntimeException")) (by decide +kernel))
    · exact va_Nw.of rfl (hts (.declares (Bundle.initS "java/lang/Exception")) (by decide +kernel))
    · exact va_Nw.of rfl (hts (.declares (Bundle.initS Bundle.tN)) (by decide +kernel))
    · exact va_Nw.of rfl (hts (.castable nIA nIA) (by decide +kernel))
    · exact va_Nw.of rfl (hts (.castable nIS nIS) (by decide +kernel))
    · exact va_Nw.of rfl (hts (.castable nIO nIO) (by decide +kernel))
    · exact va_Nc.of (hs (.not (.castable nIA nIO)) (by decide +kernel))
    · exact va_Nc.of (hs (.not (.castable nIS nIO)) (by decide +kernel))
    · exact va_Nc.of (hs (.not (.castable nIS nIA)) (by decide +kernel))
    · obtain ⟨a, -, -, -, e, -⟩ := Cond.exactly_spec (hs (.exactly (.string RX0 120) "java/lang/String") (by decide +kernel)); exact ⟨a, vk_R.of (hts (.stringRef RX0 120 "a value is out of its range") (by decide +kernel)) e⟩
    · obtain ⟨a, -, -, -, e, -⟩ := Cond.exactly_spec (hs (.exactly (.string RX0 123) "java/lang/String") (by decide +kernel)); exact ⟨a, vk_R.of (hts (.stringRef RX0 123 "there is no such phase") (by decide +kernel)) e⟩
    · obtain ⟨a, -, -, -, e, -⟩ := Cond.exactly_spec (hs (.exactly (.string RX0 127) "java/lang/String") (by decide +kernel)); exact ⟨a, vk_R.of (hts (.stringRef RX0 127 "there is no such point") (by decide +kernel)) e⟩
    · obtain ⟨a, -, -, -, e, -⟩ := Cond.exactly_spec (hs (.exactly (.string RX0 130) "java/lang/String") (by decide +kernel)); exact ⟨a, vk_R.of (hts (.stringRef RX0 130 "there is no car at the point") (by decide +kernel)) e⟩
    · obtain ⟨a, -, -, -, e, -⟩ := Cond.exactly_spec (hs (.exactly (.string RX0 60) "java/lang/String") (by decide +kernel)); exact ⟨a, vk_R.of (hts (.stringRef RX0 60 "there is no room for a further point") (by decide +kernel)) e⟩
    · obtain ⟨a, -, -, -, e, -⟩ := Cond.exactly_spec (hs (.exactly (.string RX0 72) "java/lang/String") (by decide +kernel)); exact ⟨a, vk_R.of (hts (.stringRef RX0 72 "there is a car at the point") (by decide +kernel)) e⟩
  have hZ : kZ (fun q : Nat => s.heap.size ≤ q) s s.heap := ⟨vx_Zqof (hts (.laysStatic Bundle.tN "UNASSIGNED_STACK" Bundle.steD) (by decide +kernel)) (hts (.initialized Bundle.tN) (by decide +kernel)) (hs (.isRef (.static Bundle.tN "UNASSIGNED_STACK" Bundle.steD)) (by decide +kernel)) (fun a ha h => absurd ha (Nat.not_lt.mpr h)), vx_Zqof (hts (.laysStatic Bundle.tN "SUPPRESSED_SENTINEL" Bundle.listD) (by decide +kernel)) (hts (.initialized Bundle.tN) (by decide +kernel)) (hs (.isRef (.static Bundle.tN "SUPPRESSED_SENTINEL" Bundle.listD)) (by decide +kernel)) (fun a ha h => absurd ha (Nat.not_lt.mpr h))⟩
  have inX0 : ∀ w ∈ wsX00, w ∈ wsL_law := by decide +kernel
  have hC : CallFix p m c cL_law 6 s #[Value.ref b] wsL_law RL := ⟨hx, hb, hml, hown, fun w h => hts w (wsL_law_in w h)⟩
  have htl := hC.2.2.2.2
  obtain ⟨c0, iS0, hKn0⟩ := u_known (C := RX0) (T := TX0) (N := 16) (n := 16) htl inX0 (htl (.instantiable RX0 16) (by decide +kernel))
  obtain ⟨dC, dI, hKc⟩ : ∃ (dC : Nat → ClassId) (dI : Nat → Nat → Nat), ∀ (k : Nat) (q : vw_C), vwCl[k]? = some q → u_Kn s q.1 q.2.1 q.2.2 (dC k) (dI k) := by
    refine ⟨fun k => c0, fun k => iS0, ?_⟩
    intro k q hq
    match k, hq with
    | 0, hq => cases hq; exact hKn0
    | k + 1, hq => simp [vwCl] at hq
  obtain ⟨cI, hcI⟩ := k_arr (hts (.arrayClass .int) (by decide +kernel)) (fun C h => by cases h)
  have cZ := cI
  have hK : va_K (dC, dI) vwCl (kT cI cZ) s := ⟨hKc, fun k q hq => by
    match k, hq with
    | 0, hq => cases hq; exact hcI
    | k + 1, hq => simp [kT] at hq⟩
  have hS : va_S (fun q : Nat => s.heap.size ≤ q) s.heap s.heap [] := va_S.rf
  have hP : va_P (dC, dI) vwCl [] s.heap := fun k q h => by simp at h
  have hD : va_D (fun q : Nat => s.heap.size ≤ q) [] := ⟨fun i j p q h => by simp at h, fun k q h => by simp at h⟩
  have hl := lv_entry ([.ref b]) (n := 6) (Nat.le_of_ble_eq_true rfl)
  rw [lg_entry_eq]
  generalize (lg_sl ([.ref b]) ++ List.replicate (6 - (lg_sl ([.ref b])).length) Slot.unset).toArray = ls at hl ⊢
  have hl : lv_has ls 6 [(0, .ref b)] := hl
  refine lk_call (rest := []) (As := []) hC (c_L_shares l hl0 dC dI cI cZ) (va_cwS 0 htl gL_law_L_shares rfl rfl rfl hd_L_shares ⟨Nat.le_of_ble_eq_true rfl, Nat.le_of_ble_eq_true rfl⟩) hK hN hZ hP hD hS hA rfl hl.1 (Nat.le_of_ble_eq_true rfl) dL_law_0 rfl ⟨Nat.le_of_ble_eq_true rfl, Nat.le_of_ble_eq_true rfl⟩ (fun w2 H locs hB hP2 hD2 hS => ?_)
  have hP : va_P (dC, dI) vwCl [] H := fun k q h => by simp at h
  refine lv_if_eq (tgt := 18) hx hb dL_law_3 (by decide) (fun c => absurd c (by decide)) (fun _ => ?_)
  refine lk_call (rest := []) (As := []) hC (c_L_cars l hl0 dC dI cI cZ) (va_cwS 0 htl gL_law_L_cars rfl rfl rfl hd_L_cars ⟨Nat.le_of_ble_eq_true rfl, Nat.le_of_ble_eq_true rfl⟩) hK hN hZ hP hD hS hA rfl hl.1 (Nat.le_of_ble_eq_true rfl) dL_law_6 rfl ⟨Nat.le_of_ble_eq_true rfl, Nat.le_of_ble_eq_true rfl⟩ (fun w2 H locs hB hP2 hD2 hS => ?_)
  have hP : va_P (dC, dI) vwCl [] H := fun k q h => by simp at h
  refine lv_if_eq (tgt := 18) hx hb dL_law_9 (by decide) (fun c => absurd c (by decide)) (fun _ => ?_)
  refine lk_call (rest := []) (As := []) hC (c_L_ties l hl0 dC dI cI cZ) (va_cwS 0 htl gL_law_L_ties rfl rfl rfl hd_L_ties ⟨Nat.le_of_ble_eq_true rfl, Nat.le_of_ble_eq_true rfl⟩) hK hN hZ hP hD hS hA rfl hl.1 (Nat.le_of_ble_eq_true rfl) dL_law_12 rfl ⟨Nat.le_of_ble_eq_true rfl, Nat.le_of_ble_eq_true rfl⟩ (fun w2 H locs hB hP2 hD2 hS => ?_)
  have hP : va_P (dC, dI) vwCl [] H := fun k q h => by simp at h
  refine lv_if_ne (tgt := 20) hx hb dL_law_15 (by decide) (fun _ => ?_) (fun c => absurd c (by decide))
  refine W.widen (k := 500) (n := 3060) (Nat.le_of_ble_eq_true rfl) (Nat.le_of_ble_eq_true rfl) ?_
  refine va_new (ci := 0) (fs := [.null, .null, .null, .null, .null, .null, .int 0, .int 0, .int 0, .int 0, .int 0, .int 0, .null, .null, .null, .null]) (C := RX0) (T := TX0) (N := 16) hx hb htl inX0 tyX0 tyX0_ok hown (htl (.classLink RL 8 RX0) (by decide +kernel)) (htl (.instantiable RX0 16) (by decide +kernel)) (htl (.initialized RX0) (by decide +kernel)) hK hP hD hS hA rfl (fun j hj => by rcases (show j = 0 ∨ j = 1 ∨ j = 2 ∨ j = 3 ∨ j = 4 ∨ j = 5 ∨ j = 6 ∨ j = 7 ∨ j = 8 ∨ j = 9 ∨ j = 10 ∨ j = 11 ∨ j = 12 ∨ j = 13 ∨ j = 14 ∨ j = 15 by omega) with rfl | rfl | rfl | rfl | rfl | rfl | rfl | rfl | rfl | rfl | rfl | rfl | rfl | rfl | rfl | rfl <;> rfl) (Nat.le_of_ble_eq_true rfl) (Nat.le_of_ble_eq_true rfl) dL_law_20 (fun h H hP hD hS => ?_)
  refine W.widen (k := 501) (n := 3076) (Nat.le_of_ble_eq_true rfl) (Nat.le_of_ble_eq_true rfl) ?_
  have hP : va_P (dC, dI) vwCl [(h, .inr (0, [.null, .null, .null, .null, .null, .null, .int 0, .int 0, .int 0, .int 0, .int 0, .int 0, .null, .null, .null, .null]))] H := hP
  have hD : va_D (fun q : Nat => s.heap.size ≤ q) [(h, .inr (0, [.null, .null, .null, .null, .null, .null, .int 0, .int 0, .int 0, .int 0, .int 0, .int 0, .null, .null, .null, .null]))] := hD
  refine lv_dup hx hb dL_law_23 rfl ?_
  have hF := k_free hD hS hA
  refine va_callv (va_runI (As := []) (rest := [.ref h]) hC (c_X0_init l dC dI cI cZ h H.size) (cwI 0 htl gL_law_X0_init rfl rfl rfl (htl (.initialized RX0) (by decide +kernel)) (htl (.methodLink RL 92 yX0_init) (by decide +kernel)) (htl (.instanceMethod yX0_init) (by decide +kernel)) rfl (by decide +kernel) ⟨Nat.le_of_ble_eq_true rfl, Nat.le_of_ble_eq_true rfl⟩) ⟨kPre_blind, kPre_at hK hP hD⟩ rfl rfl hl.1 rfl (lv_room (Nat.le_of_ble_eq_true rfl)) dL_law_24 ⟨Nat.le_of_ble_eq_true rfl, Nat.le_of_ble_eq_true rfl⟩) hS (fun q _ h => hF q h) hF (fun a t H1 locs ht hvm hw hB hz1 hk1 hS => ?_)
  obtain ⟨hP1, hD1⟩ := hB
  rw [ht] at hP1
  have hP : va_P (dC, dI) vwCl (xW cI cZ h a uZ uZ uZ uZ uZ uF0 0 100 0 0 0 0 uZ uZ uZ uZ) H1 := hP1
  have hD : va_D (fun q : Nat => s.heap.size ≤ q) (xW cI cZ h a uZ uZ uZ uZ uZ uF0 0 100 0 0 0 0 uZ uZ uZ uZ) := hD1.weaken (fun _ q _ h => hF _ h)
  generalize H1 = H at hP hS ⊢
  refine W.widen (k := 511 + 93 * 0) (n := 3146 + 558 * 0) (Nat.le_of_ble_eq_true rfl) (Nat.le_of_ble_eq_true rfl) ?_
  refine lv_astore_n (lv' := [(1, .ref h), (0, .ref b)]) hx hb dL_law_27 rfl hl (by decide) rfl (fun ls hl => ?_)
  refine lv_iconst (v := nI 0) hx hb dL_law_28 (by decide) ?_
  refine lv_istore_n (lv' := [(2, .int (nI 0)), (1, .ref h), (0, .ref b)]) hx hb dL_law_29 rfl hl (by decide) rfl (fun ls hl => ?_)
  have I0 : Iv (5 * 0) (min 0 8) uZ uZ uZ uZ uZ uF0 0 100 0 0 := by unfold Iv; decide +kernel
  exact law_loop hC hl0 hX hbl hL hK hN hZ (fun H ls => lw_ret hx hb hr hlocks dL_law_228) 30 0 uZ uZ uZ uZ uZ uF0 0 100 0 0 0 0 uZ uZ uZ uZ rfl I0 H locs ls hP hD hS (lv_sub hl [0, 2, 1] rfl)
