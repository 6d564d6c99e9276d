def X0_requireWithin_T (vl : Int32) (lw : Int32) (hg : Int32) : Int32 := (if vl < lw then 1 else (if vl ≤ hg then 0 else 1))
abbrev rmX0_requireWithin : Room := { frames := 0, cells := 0, slots := 0, locals := 0 }
theorem hd_X0_requireWithin : yX0_requireWithin.cls ≠ "java/lang/invoke/MethodHandle" ∧ yX0_requireWithin.cls ≠ "java/lang/invoke/VarHandle" ∧ (parseMethodDescriptor yX0_requireWithin.desc).map (fun d => d.parameters.length) = some 3 := by decide +kernel
set_option maxHeartbeats 4000000 in
set_option maxRecDepth 100000 in
theorem c_X0_requireWithin (l : Launch) (dC : Nat → ClassId) (dI : Nat → Nat → Nat) (cI cZ : ClassId) (w : va_W) (vl : Int32) (lw : Int32) (hg : Int32) (hok : X0_requireWithin_T vl lw hg = 0) : Kv l yX0_requireWithin wsX0_requireWithin rmX0_requireWithin dC dI cI cZ [.int vl, .int lw, .int hg] w w := by
  refine k_enter_v (cc := cX0_requireWithin) (maxL := 3) (ret := none) (by decide) rfl (Nat.le_of_ble_eq_true rfl) ?_
  intro p e s m below meth c A ls hC hr hlocks hK hP hD hS hA hl
  generalize List.toArray _ = args at hC ⊢
  obtain ⟨hx, hb, hml, hown, hts⟩ := id hC
  have hret : ∀ (H : Heap) (locs : List Loc) (pc : Nat) (ls : Array Slot), va_S A s.heap H locs → va_P (dC, dI) vwCl w H → va_D A w → decode cX0_requireWithin pc = .ok (.return_, 1) → W p l e rmX0_requireWithin s m args below meth c H locs 0 0 (MQ below (va_Qv (fun (_ : Unit) => True) (kBeh dC dI A w) A) args s 0 0 A) (F0 m pc ls []) := fun H locs pc ls hS hP hD d => k_vret hx hb hr hlocks hS hP hD d
  generalize MQ below _ _ _ _ _ _ = Q at hret ⊢
  have hl : lv_has ls 3 [(0, .int vl), (1, .int lw), (2, .int hg)] := hl
  have hW : ∀ (H : Heap) (locs : List Loc), va_P (dC, dI) vwCl w H → va_D A w → va_S A s.heap H locs → W p l e rmX0_requireWithin s m args below meth c H locs 0 0 Q (F0 m 0 ls []) := by
    intro H locs hP hD hS
    refine lv_iload_n hx hb dX0_requireWithin_0 rfl (lv_at hl 0 rfl) ?_
    refine lv_iload_n hx hb dX0_requireWithin_1 rfl (lv_at hl 1 rfl) ?_
    refine lv_icmp_lt (tgt := 10) hx hb dX0_requireWithin_2 (by decide) (fun c2 => ?_) (fun c2 => ?_)
    · rw [X0_requireWithin_T, if_pos c2] at hok
      exact absurd hok (by decide)
    · refine lv_iload_n hx hb dX0_requireWithin_5 rfl (lv_at hl 0 rfl) ?_
      refine lv_iload_n hx hb dX0_requireWithin_6 rfl (lv_at hl 2 rfl) ?_
      refine lv_icmp_le (tgt := 20) hx hb dX0_requireWithin_7 (by decide) (fun c7 => ?_) (fun c7 => ?_)
      · exact hret H locs 20 ls hS hP hD dX0_requireWithin_20
      · rw [X0_requireWithin_T, if_neg c2, if_neg c7] at hok
        exact absurd hok (by decide)
  exact hW _ _ hP hD hS
abbrev rmxX0_requireWithin : Room := { frames := 6, cells := 1, slots := 6, locals := 82 }
set_option maxHeartbeats 4000000 in
set_option maxRecDepth 100000 in
theorem cx_X0_requireWithin (l : Launch) (hl0 : l.stackTraces = false) (dC : Nat → ClassId) (dI : Nat → Nat → Nat) (cI cZ : ClassId) (w : va_W) (vl : Int32) (lw : Int32) (hg : Int32) (hbad : ¬ X0_requireWithin_T vl lw hg = 0) : Kx l yX0_requireWithin wsX0_requireWithin rmxX0_requireWithin dC dI cI cZ [.int vl, .int lw, .int hg] w (fun E => (X0_requireWithin_T vl lw hg = 1 ∧ E = nIA)) := by
  refine k_enter_x (cc := cX0_requireWithin) (maxL := 3) (ret := none) (by decide) rfl (Nat.le_of_ble_eq_true rfl) ?_
  intro p e s m below meth c A ls hC hlocks htab hK hNs hZ hP hD hS hA hl
  generalize List.toArray _ = args at hC ⊢
  obtain ⟨hx, hb, hml, hown, hts⟩ := id hC
  have hatIA : ∀ w ∈ (vx_atS RX0 122 nIA nms).filter goodWord, w ∈ wsX0_requireWithin := by decide +kernel
  have hw0 := hts (.classLink RX0 118 nIA) (by decide +kernel)
  have hw1 := hts (.initialized nIA) (by decide +kernel)
  have hl : lv_has ls 3 [(0, .int vl), (1, .int lw), (2, .int hg)] := hl
  refine lv_iload_n hx hb dX0_requireWithin_0 rfl (lv_at hl 0 rfl) ?_
  refine lv_iload_n hx hb dX0_requireWithin_1 rfl (lv_at hl 1 rfl) ?_
  refine lv_icmp_lt (tgt := 10) hx hb dX0_requireWithin_2 (by decide) (fun c2 => ?_) (fun c2 => ?_)
  · exact kx_throw (cls := nIA) hC hl0 (by decide) hw0 hw1 hNs.2.2.2.1 (kat_IA hNs (fun w hw => hts w (hatIA w hw))) kg_IA hZ hS hl.1 dX0_requireWithin_10 dX0_requireWithin_13 dX0_requireWithin_14 dX0_requireWithin_16 dX0_requireWithin_19 htab hlocks (Nat.le_of_ble_eq_true rfl) (Nat.le_of_ble_eq_true rfl) (Nat.le_of_ble_eq_true rfl) (Nat.le_of_ble_eq_true rfl) hP hD (⟨by rw [X0_requireWithin_T, if_pos c2], rfl⟩)
  · refine lv_iload_n hx hb dX0_requireWithin_5 rfl (lv_at hl 0 rfl) ?_
    refine lv_iload_n hx hb dX0_requireWithin_6 rfl (lv_at hl 2 rfl) ?_
    refine lv_icmp_le (tgt := 20) hx hb dX0_requireWithin_7 (by decide) (fun c7 => ?_) (fun c7 => ?_)
    · exact absurd (by rw [X0_requireWithin_T, if_neg c2, if_pos c7]) hbad
    · exact kx_throw (cls := nIA) hC hl0 (by decide) hw0 hw1 hNs.2.2.2.1 (kat_IA hNs (fun w hw => hts w (hatIA w hw))) kg_IA hZ hS hl.1 dX0_requireWithin_10 dX0_requireWithin_13 dX0_requireWithin_14 dX0_requireWithin_16 dX0_requireWithin_19 htab hlocks (Nat.le_of_ble_eq_true rfl) (Nat.le_of_ble_eq_true rfl) (Nat.le_of_ble_eq_true rfl) (Nat.le_of_ble_eq_true rfl) hP hD (⟨by rw [X0_requireWithin_T, if_neg c2, if_neg c7], rfl⟩)
def X0_requirePhase_T (f : Int32) : Int32 := (if f < 0 then 1 else (if f < 3 then 0 else 1))
abbrev rmX0_requirePhase : Room := { frames := 0, cells := 0, slots := 0, locals := 0 }
theorem hd_X0_requirePhase : yX0_requirePhase.cls ≠ "java/lang/invoke/MethodHandle" ∧ yX0_requirePhase.cls ≠ "java/lang/invoke/VarHandle" ∧ (parseMethodDescriptor yX0_requirePhase.desc).map (fun d => d.parameters.length) = some 1 := by decide +kernel
set_option maxHeartbeats 4000000 in
set_option maxRecDepth 100000 in
theorem c_X0_requirePhase (l : Launch) (dC : Nat → ClassId) (dI : Nat → Nat → Nat) (cI cZ : ClassId) (w : va_W) (f : Int32) (hok : X0_requirePhase_T f = 0) : Kv l yX0_requirePhase wsX0_requirePhase rmX0_requirePhase dC dI cI cZ [.int f] w w := by
  refine k_enter_v (cc := cX0_requirePhase) (maxL := 1) (ret := none) (by decide) rfl (Nat.le_of_ble_eq_true rfl) ?_
  intro p e s m below meth c A ls hC hr hlocks hK hP hD hS hA hl
  generalize List.toArray _ = args at hC ⊢
  obtain ⟨hx, hb, hml, hown, hts⟩ := id hC
  have hret : ∀ (H : Heap) (locs : List Loc) (pc : Nat) (ls : Array Slot), va_S A s.heap H locs → va_P (dC, dI) vwCl w H → va_D A w → decode cX0_requirePhase pc = .ok (.return_, 1) → W p l e rmX0_requirePhase s m args below meth c H locs 0 0 (MQ below (va_Qv (fun (_ : Unit) => True) (kBeh dC dI A w) A) args s 0 0 A) (F0 m pc ls []) := fun H locs pc ls hS hP hD d => k_vret hx hb hr hlocks hS hP hD d
  generalize MQ below _ _ _ _ _ _ = Q at hret ⊢
  have hl : lv_has ls 1 [(0, .int f)] := hl
  have hW : ∀ (H : Heap) (locs : List Loc), va_P (dC, dI) vwCl w H → va_D A w → va_S A s.heap H locs → W p l e rmX0_requirePhase s m args below meth c H locs 0 0 Q (F0 m 0 ls []) := by
    intro H locs hP hD hS
    refine lv_iload_n hx hb dX0_requirePhase_0 rfl (lv_at hl 0 rfl) ?_
    refine lv_if_lt (tgt := 9) hx hb dX0_requirePhase_1 (by decide) (fun c1 => ?_) (fun c1 => ?_)
    · rw [X0_requirePhase_T, if_pos c1] at hok
      exact absurd hok (by decide)
    · refine lv_iload_n hx hb dX0_requirePhase_4 rfl (lv_at hl 0 rfl) ?_
      refine lv_iconst (v := 3) hx hb dX0_requirePhase_5 (by decide) ?_
      refine lv_icmp_lt (tgt := 19) hx hb dX0_requirePhase_6 (by decide) (fun c6 => ?_) (fun c6 => ?_)
      · exact hret H locs 19 ls hS hP hD dX0_requirePhase_19
      · rw [X0_requirePhase_T, if_neg c1, if_neg c6] at hok
        exact absurd hok (by decide)
  exact hW _ _ hP hD hS
abbrev rmxX0_requirePhase : Room := { frames := 6, cells := 1, slots := 6, locals := 82 }
set_option maxHeartbeats 4000000 in
set_option maxRecDepth 100000 in
theorem cx_X0_requirePhase (l : Launch) (hl0 : l.stackTraces = false) (dC : Nat → ClassId) (dI : Nat → Nat → Nat) (cI cZ : ClassId) (w : va_W) (f : Int32) (hbad : ¬ X0_requirePhase_T f = 0) : Kx l yX0_requirePhase wsX0_requirePhase rmxX0_requirePhase dC dI cI cZ [.int f] w (fun E => (X0_requirePhase_T f = 1 ∧ E = nIA)) := by
  refine k_enter_x (cc := cX0_requirePhase) (maxL := 1) (ret := none) (by decide) rfl (Nat.le_of_ble_eq_true rfl) ?_
  intro p e s m below meth c A ls hC hlocks htab hK hNs hZ hP hD hS hA hl
  generalize List.toArray _ = args at hC ⊢
  obtain ⟨hx, hb, hml, hown, hts⟩ := id hC
  have hatIA : ∀ w ∈ (vx_atS RX0 122 nIA nms).filter goodWord, w ∈ wsX0_requirePhase := by decide +kernel
  have hw0 := hts (.classLink RX0 118 nIA) (by decide +kernel)
  have hw1 := hts (.initialized nIA) (by decide +kernel)
  have hl : lv_has ls 1 [(0, .int f)] := hl
  refine lv_iload_n hx hb dX0_requirePhase_0 rfl (lv_at hl 0 rfl) ?_
  refine lv_if_lt (tgt := 9) hx hb dX0_requirePhase_1 (by decide) (fun c1 => ?_) (fun c1 => ?_)
  · exact kx_throw (cls := nIA) hC hl0 (by decide) hw0 hw1 hNs.2.2.2.2.1 (kat_IA hNs (fun w hw => hts w (hatIA w hw))) kg_IA hZ hS hl.1 dX0_requirePhase_9 dX0_requirePhase_12 dX0_requirePhase_13 dX0_requirePhase_15 dX0_requirePhase_18 htab hlocks (Nat.le_of_ble_eq_true rfl) (Nat.le_of_ble_eq_true rfl) (Nat.le_of_ble_eq_true rfl) (Nat.le_of_ble_eq_true rfl) hP hD (⟨by rw [X0_requirePhase_T, if_pos c1], rfl⟩)
  · refine lv_iload_n hx hb dX0_requirePhase_4 rfl (lv_at hl 0 rfl) ?_
    refine lv_iconst (v := 3) hx hb dX0_requirePhase_5 (by decide) ?_
    refine lv_icmp_lt (tgt := 19) hx hb dX0_requirePhase_6 (by decide) (fun c6 => ?_) (fun c6 => ?_)
    · exact absurd (by rw [X0_requirePhase_T, if_neg c1, if_pos c6]) hbad
    · exact kx_throw (cls := nIA) hC hl0 (by decide) hw0 hw1 hNs.2.2.2.2.1 (kat_IA hNs (fun w hw => hts w (hatIA w hw))) kg_IA hZ hS hl.1 dX0_requirePhase_9 dX0_requirePhase_12 dX0_requirePhase_13 dX0_requirePhase_15 dX0_requirePhase_18 htab hlocks (Nat.le_of_ble_eq_true rfl) (Nat.le_of_ble_eq_true rfl) (Nat.le_of_ble_eq_true rfl) (Nat.le_of_ble_eq_true rfl) hP hD (⟨by rw [X0_requirePhase_T, if_neg c1, if_neg c6], rfl⟩)
def X0_requirePoint_T (qpc : Int32) (i : Int32) : Int32 := (if i < 0 then 1 else (if i < qpc then 0 else 1))
abbrev rmX0_requirePoint : Room := { frames := 0, cells := 0, slots := 0, locals := 0 }
theorem hd_X0_requirePoint : yX0_requirePoint.cls = RX0 ∧ yX0_requirePoint.cls ≠ "java/lang/invoke/MethodHandle" ∧ yX0_requirePoint.cls ≠ "java/lang/invoke/VarHandle" ∧ (parseMethodDescriptor yX0_requirePoint.desc).map (fun d => d.parameters.length) = some 1 := by decide +kernel
set_option maxHeartbeats 4000000 in
set_option maxRecDepth 100000 in
theorem c_X0_requirePoint (l : Launch) (dC : Nat → ClassId) (dI : Nat → Nat → Nat) (cI cZ : ClassId) (h : Nat) (a : Nat → Nat) (qph : AR) (qgr : AR) (qne : AR) (qap : AR) (qle : AR) (qfu : AR) (qpc : Int32) (qgd : Int32) (qri : Int32) (qnw : Int32) (qtk : Int32) (qsv : Int32) (qwa : AR) (qgi : AR) (qlo : AR) (qtu : AR) (i : Int32) (hok : X0_requirePoint_T qpc i = 0) : Kv l yX0_requirePoint wsX0_requirePoint rmX0_requirePoint dC dI cI cZ [.ref h, .int i] (xW cI cZ h a qph qgr qne qap qle qfu qpc qgd qri qnw qtk qsv qwa qgi qlo qtu) (xW cI cZ h a qph qgr qne qap qle qfu qpc qgd qri qnw qtk qsv qwa qgi qlo qtu) := by
  refine k_enter_v (cc := cX0_requirePoint) (maxL := 2) (ret := none) (by decide) rfl (Nat.le_of_ble_eq_true rfl) ?_
  intro p e s m below meth c A ls hC hr hlocks hK hP hD hS hA hl
  generalize List.toArray _ = args at hC ⊢
  obtain ⟨hx, hb, hml, hown, hts⟩ := id hC
  have hret : ∀ (H : Heap) (locs : List Loc) (pc : Nat) (ls : Array Slot), va_S A s.heap H locs → va_P (dC, dI) vwCl (xW cI cZ h a qph qgr qne qap qle qfu qpc qgd qri qnw qtk qsv qwa qgi qlo qtu) H → va_D A (xW cI cZ h a qph qgr qne qap qle qfu qpc qgd qri qnw qtk qsv qwa qgi qlo qtu) → decode cX0_requirePoint pc = .ok (.return_, 1) → W p l e rmX0_requirePoint s m args below meth c H locs 0 0 (MQ below (va_Qv (fun (_ : Unit) => True) (kBeh dC dI A (xW cI cZ h a qph qgr qne qap qle qfu qpc qgd qri qnw qtk qsv qwa qgi qlo qtu)) A) args s 0 0 A) (F0 m pc ls []) := fun H locs pc ls hS hP hD d => k_vret hx hb hr hlocks hS hP hD d
  generalize MQ below _ _ _ _ _ _ = Q at hret ⊢
  have hin : ∀ w ∈ wsX00, w ∈ wsX0_requirePoint := by decide +kernel
  have hw0 := hts (.fieldLink RX0 55 "ChargePark" "pointCount" "I") (by decide +kernel)
  have hl : lv_has ls 2 [(0, .ref h), (1, .int i)] := hl
  have hP : va_P (dC, dI) vwCl (xW cI cZ h a qph qgr qne qap qle qfu qpc qgd qri qnw qtk qsv qwa qgi qlo qtu) s.heap := hP
  have hW : ∀ (H : Heap) (locs : List Loc), va_P (dC, dI) vwCl (xW cI cZ h a qph qgr qne qap qle qfu qpc qgd qri qnw qtk qsv qwa qgi qlo qtu) H → va_D A (xW cI cZ h a qph qgr qne qap qle qfu qpc qgd qri qnw qtk qsv qwa qgi qlo qtu) → va_S A s.heap H locs → W p l e rmX0_requirePoint s m args below meth c H locs 0 0 Q (F0 m 0 ls []) := by
    intro H locs hP hD hS
    refine lv_iload_n hx hb dX0_requirePoint_0 rfl (lv_at hl 1 rfl) ?_
    refine lv_if_lt (tgt := 12) hx hb dX0_requirePoint_1 (by decide) (fun c1 => ?_) (fun c1 => ?_)
    · rw [X0_requirePoint_T, if_pos c1] at hok
      exact absurd hok (by decide)
    · refine lv_iload_n hx hb dX0_requirePoint_4 rfl (lv_at hl 1 rfl) ?_
      refine lv_aload_n hx hb dX0_requirePoint_5 rfl (lv_at hl 0 rfl) ?_
      refine va_get (D := (dC, dI)) (ci := 0) (v := .int qpc) (C := RX0) (T := TX0) (N := 16) hx hb hts hin hown hK hP 0 rfl rfl 6 (by decide) hw0 (fun _ h9 => h9) rfl dX0_requirePoint_6 ?_
      refine lv_icmp_lt (tgt := 22) hx hb dX0_requirePoint_9 (by decide) (fun c9 => ?_) (fun c9 => ?_)
      · exact hret H locs 22 ls hS hP hD dX0_requirePoint_22
      · rw [X0_requirePoint_T, if_neg c1, if_neg c9] at hok
        exact absurd hok (by decide)
  exact hW _ _ hP hD hS
abbrev rmxX0_requirePoint : Room := { frames := 6, cells := 1, slots := 6, locals := 82 }
set_option maxHeartbeats 4000000 in
set_option maxRecDepth 100000 in
theorem cx_X0_requirePoint (l : Launch) (hl0 : l.stackTraces = false) (dC : Nat → ClassId) (dI : Nat → Nat → Nat) (cI cZ : ClassId) (h : Nat) (a : Nat → Nat) (qph : AR) (qgr : AR) (qne : AR) (qap : AR) (qle : AR) (qfu : AR) (qpc : Int32) (qgd : Int32) (qri : Int32) (qnw : Int32) (qtk : Int32) (qsv : Int32) (qwa : AR) (qgi : AR) (qlo : AR) (qtu : AR) (i : Int32) (hbad : ¬ X0_requirePoint_T qpc i = 0) : Kx l yX0_requirePoint wsX0_requirePoint rmxX0_requirePoint dC dI cI cZ [.ref h, .int i] (xW cI cZ h a qph qgr qne qap qle qfu qpc qgd qri qnw qtk qsv qwa qgi qlo qtu) (fun E => (X0_requirePoint_T qpc i = 1 ∧ E = nIO)) := by
  refine k_enter_x (cc := cX0_requirePoint) (maxL := 2) (ret := none) (by decide) rfl (Nat.le_of_ble_eq_true rfl) ?_
  intro p e s m below meth c A ls hC hlocks htab hK hNs hZ hP hD hS hA hl
  generalize List.toArray _ = args at hC ⊢
  obtain ⟨hx, hb, hml, hown, hts⟩ := id hC
  have hatIO : ∀ w ∈ (vx_atS RX0 129 nIO nms).filter goodWord, w ∈ wsX0_requirePoint := by decide +kernel
  have hin : ∀ w ∈ wsX00, w ∈ wsX0_requirePoint := by decide +kernel
  have hw0 := hts (.classLink RX0 125 nIO) (by decide +kernel)
  have hw1 := hts (.initialized nIO) (by decide +kernel)
  have hw2 := hts (.fieldLink RX0 55 "ChargePark" "pointCount" "I") (by decide +kernel)
  have hl : lv_has ls 2 [(0, .ref h), (1, .int i)] := hl
  have hP : va_P (dC, dI) vwCl (xW cI cZ h a qph qgr qne qap qle qfu qpc qgd qri qnw qtk qsv qwa qgi qlo qtu) s.heap := hP
  refine lv_iload_n hx hb dX0_requirePoint_0 rfl (lv_at hl 1 rfl) ?_
  refine lv_if_lt (tgt := 12) hx hb dX0_requirePoint_1 (by decide) (fun c1 => ?_) (fun c1 => ?_)
  · exact kx_throw (cls := nIO) hC hl0 (by decide) hw0 hw1 hNs.2.2.2.2.2.1 (kat_IO hNs (fun w hw => hts w (hatIO w hw))) kg_IO hZ hS hl.1 dX0_requirePoint_12 dX0_requirePoint_15 dX0_requirePoint_16 dX0_requirePoint_18 dX0_requirePoint_21 htab hlocks (Nat.le_of_ble_eq_true rfl) (Nat.le_of_ble_eq_true rfl) (Nat.le_of_ble_eq_true rfl) (Nat.le_of_ble_eq_true rfl) hP hD (⟨by rw [X0_requirePoint_T, if_pos c1], rfl⟩)
  · refine lv_iload_n hx hb dX0_requirePoint_4 rfl (lv_at hl 1 rfl) ?_
    refine lv_aload_n hx hb dX0_requirePoint_5 rfl (lv_at hl 0 rfl) ?_
    refine va_get (D := (dC, dI)) (ci := 0) (v := .int qpc) (C := RX0) (T := TX0) (N := 16) hx hb hts hin hown hK hP 0 rfl rfl 6 (by decide) hw2 (fun _ h9 => h9) rfl dX0_requirePoint_6 ?_
    refine lv_icmp_lt (tgt := 22) hx hb dX0_requirePoint_9 (by decide) (fun c9 => ?_) (fun c9 => ?_)
    · exact absurd (by rw [X0_requirePoint_T, if_neg c1, if_pos c9]) hbad
    · exact kx_throw (cls := nIO) hC hl0 (by decide) hw0 hw1 hNs.2.2.2.2.2.1 (kat_IO hNs (fun w hw => hts w (hatIO w hw))) kg_IO hZ hS hl.1 dX0_requirePoint_12 dX0_requirePoint_15 dX0_requirePoint_16 dX0_requirePoint_18 dX0_requirePoint_21 htab hlocks (Nat.le_of_ble_eq_true rfl) (Nat.le_of_ble_eq_true rfl) (Nat.le_of_ble_eq_true rfl) (Nat.le_of_ble_eq_true rfl) hP hD (⟨by rw [X0_requirePoint_T, if_neg c1, if_neg c9], rfl⟩)
theorem rq_T {qpc i : Int32} (h : X0_requirePoint_T qpc i = 0) : 0 ≤ i.toInt ∧ i.toInt < qpc.toInt := by
  rw [X0_requirePoint_T] at h
  split at h
  · exact absurd h (by decide)
  · split at h
    · rename_i h1 h2
      rw [i_lt] at h1 h2
      have e0 : (0 : Int32).toInt = 0 := rfl
      omega
    · exact absurd h (by decide)
theorem rq_nat {qpc i : Int32} {n : Nat} (hpc : qpc = nI n) (hn : n ≤ 8) (h : X0_requirePoint_T qpc i = 0) : i = nI i.toNatClampNeg ∧ i.toNatClampNeg < n ∧ (i.toNatClampNeg : Int) = i.toInt := by
  have h1 := rq_T h
  rw [hpc, nI_toInt (by omega)] at h1
  have h3 := nat_of (x := i) (N := n) (by omega) (by omega) (by omega)
  exact ⟨h3.1, by omega, h3.2.2⟩
theorem rq_in {qpc i : Int32} {n : Nat} (hpc : qpc = nI n) (hn : n ≤ 8) (h : X0_requirePoint_T qpc i = 0) : vp_in i 8 := by
  have h1 := rq_nat hpc hn h
  rw [vp_in_iff]
  omega
def X0_requireCar_T (qne : AR) (i : Int32) : Int32 := (if (X0_hasCar qne i) = 0 then 1 else 0)
abbrev rmX0_requireCar : Room := { frames := 1, cells := 0, slots := 0, locals := 21 }
theorem hd_X0_requireCar : yX0_requireCar.cls = RX0 ∧ yX0_requireCar.cls ≠ "java/lang/invoke/MethodHandle" ∧ yX0_requireCar.cls ≠ "java/lang/invoke/VarHandle" ∧ (parseMethodDescriptor yX0_requireCar.desc).map (fun d => d.parameters.length) = some 1 := by decide +kernel
set_option maxHeartbeats 4000000 in
set_option maxRecDepth 100000 in
theorem c_X0_requireCar (l : Launch) (dC : Nat → ClassId) (dI : Nat → Nat → Nat) (cI cZ : ClassId) (h : Nat) (a : Nat → Nat) (qph : AR) (qgr : AR) (qne : AR) (qap : AR) (qle : AR) (qfu : AR) (qpc : Int32) (qgd : Int32) (qri : Int32) (qnw : Int32) (qtk : Int32) (qsv : Int32) (qwa : AR) (qgi : AR) (qlo : AR) (qtu : AR) (i : Int32) (hp : vp_in i 8) (hok : X0_requireCar_T qne i = 0) : Kv l yX0_requireCar wsX0_requireCar rmX0_requireCar dC dI cI cZ [.ref h, .int i] (xW cI cZ h a qph qgr qne qap qle qfu qpc qgd qri qnw qtk qsv qwa qgi qlo qtu) (xW cI cZ h a qph qgr qne qap qle qfu qpc qgd qri qnw qtk qsv qwa qgi qlo qtu) := by
  refine k_enter_v (cc := cX0_requireCar) (maxL := 2) (ret := none) (by decide) rfl (Nat.le_of_ble_eq_true rfl) ?_
  intro p e s m below meth c A ls hC hr hlocks hK hP hD hS hA hl
  generalize List.toArray _ = args at hC ⊢
  obtain ⟨hx, hb, hml, hown, hts⟩ := id hC
  have hret : ∀ (H : Heap) (locs : List Loc) (pc : Nat) (ls : Array Slot), va_S A s.heap H locs → va_P (dC, dI) vwCl (xW cI cZ h a qph qgr qne qap qle qfu qpc qgd qri qnw qtk qsv qwa qgi qlo qtu) H → va_D A (xW cI cZ h a qph qgr qne qap qle qfu qpc qgd qri qnw qtk qsv qwa qgi qlo qtu) → decode cX0_requireCar pc = .ok (.return_, 1) → W p l e rmX0_requireCar s m args below meth c H locs 0 0 (MQ below (va_Qv (fun (_ : Unit) => True) (kBeh dC dI A (xW cI cZ h a qph qgr qne qap qle qfu qpc qgd qri qnw qtk qsv qwa qgi qlo qtu)) A) args s 0 0 A) (F0 m pc ls []) := fun H locs pc ls hS hP hD d => k_vret hx hb hr hlocks hS hP hD d
  generalize MQ below _ _ _ _ _ _ = Q at hret ⊢
  have hl : lv_has ls 2 [(0, .ref h), (1, .int i)] := hl
  have hP : va_P (dC, dI) vwCl (xW cI cZ h a qph qgr qne qap qle qfu qpc qgd qri qnw qtk qsv qwa qgi qlo qtu) s.heap := hP
  have hW : ∀ (H : Heap) (locs : List Loc), va_P (dC, dI) vwCl (xW cI cZ h a qph qgr qne qap qle qfu qpc qgd qri qnw qtk qsv qwa qgi qlo qtu) H → va_D A (xW cI cZ h a qph qgr qne qap qle qfu qpc qgd qri qnw qtk qsv qwa qgi qlo qtu) → va_S A s.heap H locs → W p l e rmX0_requireCar s m args below meth c H locs 0 0 Q (F0 m 0 ls []) := by
    intro H locs hP hD hS
    refine lv_aload_n hx hb dX0_requireCar_0 rfl (lv_at hl 0 rfl) ?_
    refine lv_iload_n hx hb dX0_requireCar_1 rfl (lv_at hl 1 rfl) ?_
    refine k_calli (rest := []) (q0 := 0) hC (c_X0_hasCar l dC dI cI cZ h a qph qgr qne qap qle qfu qpc qgd qri qnw qtk qsv qwa qgi qlo qtu  i hp) (cwV 1 hts gX0_requireCar_X0_hasCar rfl rfl rfl hd_X0_hasCar ⟨Nat.le_of_ble_eq_true rfl, Nat.le_of_ble_eq_true rfl⟩) hK hP hD hS hA rfl rfl rfl hl.1 (Nat.le_of_ble_eq_true rfl) dX0_requireCar_2 rfl ⟨Nat.zero_le _, Nat.zero_le _⟩ (fun H locs hP hD hS => ?_)
    refine lv_if_ne (tgt := 18) hx hb dX0_requireCar_5 (by decide) (fun c5 => ?_) (fun c5 => ?_)
    · exact hret H locs 18 ls hS hP hD dX0_requireCar_18
    · rw [X0_requireCar_T, if_pos c5] at hok
      exact absurd hok (by decide)
  exact hW _ _ hP hD hS
abbrev rmxX0_requireCar : Room := { frames := 6, cells := 1, slots := 6, locals := 82 }
set_option maxHeartbeats 4000000 in
set_option maxRecDepth 100000 in
theorem cx_X0_requireCar (l : Launch) (hl0 : l.stackTraces = false) (dC : Nat → ClassId) (dI : Nat → Nat → Nat) (cI cZ : ClassId) (h : Nat) (a : Nat → Nat) (qph : AR) (qgr : AR) (qne : AR) (qap : AR) (qle : AR) (qfu : AR) (qpc : Int32) (qgd : Int32) (qri : Int32) (qnw : Int32) (qtk : Int32) (qsv : Int32) (qwa : AR) (qgi : AR) (qlo : AR) (qtu : AR) (i : Int32) (hp : vp_in i 8) (hbad : ¬ X0_requireCar_T qne i = 0) : Kx l yX0_requireCar wsX0_requireCar rmxX0_requireCar dC dI cI cZ [.ref h, .int i] (xW cI cZ h a qph qgr qne qap qle qfu qpc qgd qri qnw qtk qsv qwa qgi qlo qtu) (fun E => (X0_requireCar_T qne i = 1 ∧ E = nIS)) := by
  refine k_enter_x (cc := cX0_requireCar) (maxL := 2) (ret := none) (by decide) rfl (Nat.le_of_ble_eq_true rfl) ?_
  intro p e s m below meth c A ls hC hlocks htab hK hNs hZ hP hD hS hA hl
  generalize List.toArray _ = args at hC ⊢
  obtain ⟨hx, hb, hml, hown, hts⟩ := id hC
  have hatIS : ∀ w ∈ (vx_atS RX0 62 nIS nms).filter goodWord, w ∈ wsX0_requireCar := by decide +kernel
  have hw0 := hts (.classLink RX0 58 nIS) (by decide +kernel)
  have hw1 := hts (.initialized nIS) (by decide +kernel)
  have hl : lv_has ls 2 [(0, .ref h), (1, .int i)] := hl
  have hP : va_P (dC, dI) vwCl (xW cI cZ h a qph qgr qne qap qle qfu qpc qgd qri qnw qtk qsv qwa qgi qlo qtu) s.heap := hP
  refine lv_aload_n hx hb dX0_requireCar_0 rfl (lv_at hl 0 rfl) ?_
  refine lv_iload_n hx hb dX0_requireCar_1 rfl (lv_at hl 1 rfl) ?_
  refine k_calli (rest := []) (q0 := 0) hC (c_X0_hasCar l dC dI cI cZ h a qph qgr qne qap qle qfu qpc qgd qri qnw qtk qsv qwa qgi qlo qtu  i hp) (cwV 1 hts gX0_requireCar_X0_hasCar rfl rfl rfl hd_X0_hasCar ⟨Nat.le_of_ble_eq_true rfl, Nat.le_of_ble_eq_true rfl⟩) hK hP hD hS hA rfl rfl rfl hl.1 (Nat.le_of_ble_eq_true rfl) dX0_requireCar_2 rfl ⟨Nat.zero_le _, Nat.zero_le _⟩ (fun H locs hP hD hS => ?_)
  refine lv_if_ne (tgt := 18) hx hb dX0_requireCar_5 (by decide) (fun c5 => ?_) (fun c5 => ?_)
  · exact absurd (by rw [X0_requireCar_T, if_neg c5]) hbad
  · exact kx_throw (cls := nIS) hC hl0 (by decide) hw0 hw1 hNs.2.2.2.2.2.2.1 (kat_IS hNs (fun w hw => hts w (hatIS w hw))) kg_IS hZ hS hl.1 dX0_requireCar_8 dX0_requireCar_11 dX0_requireCar_12 dX0_requireCar_14 dX0_requireCar_17 htab hlocks (Nat.le_of_ble_eq_true rfl) (Nat.le_of_ble_eq_true rfl) (Nat.le_of_ble_eq_true rfl) (Nat.le_of_ble_eq_true rfl) hP hD (⟨by rw [X0_requireCar_T, if_pos c5], rfl⟩)
theorem rqw_T {v lo hi : Int32} (h : X0_requireWithin_T v lo hi = 0) : lo.toInt ≤ v.toInt ∧ v.toInt ≤ hi.toInt := by
  rw [X0_requireWithin_T] at h
  split at h
  · exact absurd h (by decide)
  · split at h
    · rename_i h1 h2
      rw [i_lt] at h1
      rw [i_le] at h2
      omega
    · exact absurd h (by decide)
theorem rqp_in {f : Int32} (h : X0_requirePhase_T f = 0) : vp_in f 3 := by
  rw [X0_requirePhase_T] at h
  split at h
  · exact absurd h (by decide)
  · split at h
    · rename_i h1 h2
      rw [i_lt] at h1 h2
      have e0 : (0 : Int32).toInt = 0 := rfl
      have e3 : (3 : Int32).toInt = 3 := rfl
      rw [vp_in_iff]
      omega
    · exact absurd h (by decide)
theorem pcl_in {qpc : Int32} {n : Nat} (hpc : qpc = nI n) (hn : n ≤ 8) (h : qpc < 8) : vp_in qpc 8 := by
  rw [i_lt, hpc, nI_toInt (by omega)] at h
  have e8 : (8 : Int32).toInt = 8 := rfl
  rw [hpc]
  exact vp_in_nI (by omega) (by decide)
theorem rqw_50 {i : Int32} (h : X0_requireWithin_T i 1 50 = 0) : i = nI i.toNatClampNeg ∧ i.toNatClampNeg ≤ 50 := by
  have h1 := rqw_T h
  have e0 : (1 : Int32).toInt = 1 := rfl
  have e2 : (50 : Int32).toInt = 50 := rfl
  have h2 := nat_of (x := i) (N := 50) (by omega) (by omega) (by omega)
  exact ⟨h2.1, h2.2.1⟩
