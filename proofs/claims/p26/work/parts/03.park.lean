def X0_dividedRoundedUp (am : Int32) (dv : Int32) : Int32 := (if 1 ≤ dv then (((am + dv) - 1) / dv) else am)
abbrev rmX0_dividedRoundedUp : Room := { frames := 0, cells := 0, slots := 0, locals := 0 }
theorem hd_X0_dividedRoundedUp : yX0_dividedRoundedUp.cls ≠ "java/lang/invoke/MethodHandle" ∧ yX0_dividedRoundedUp.cls ≠ "java/lang/invoke/VarHandle" ∧ (parseMethodDescriptor yX0_dividedRoundedUp.desc).map (fun d => d.parameters.length) = some 2 := by decide +kernel
set_option maxHeartbeats 4000000 in
set_option maxRecDepth 100000 in
theorem c_X0_dividedRoundedUp (l : Launch) (dC : Nat → ClassId) (dI : Nat → Nat → Nat) (cI cZ : ClassId) (w : va_W) (am : Int32) (dv : Int32) : Ki l yX0_dividedRoundedUp wsX0_dividedRoundedUp rmX0_dividedRoundedUp dC dI cI cZ [.int am, .int dv] w w (X0_dividedRoundedUp am dv) := by
  refine k_enter_i (cc := cX0_dividedRoundedUp) (maxL := 2) (ret := some .int) (by decide) rfl (Nat.le_of_ble_eq_true rfl) ?_
  intro p e s m below meth c A ls hC hr hlocks hK hP hD hS hA hl
  generalize List.toArray _ = args at hC ⊢
  obtain ⟨hx, hb, hml, hown, hts⟩ := id hC
  have hret : ∀ (H : Heap) (locs : List Loc) (pc : Nat) (ls : Array Slot) (r : Int32), va_S A s.heap H locs → va_P (dC, dI) vwCl w H → va_D A w → r = (X0_dividedRoundedUp am dv) → decode cX0_dividedRoundedUp pc = .ok (.ireturn, 1) → W p l e rmX0_dividedRoundedUp s m args below meth c H locs 0 0 (MQ below (va_Qi (fun r (_ : Unit) => r = (X0_dividedRoundedUp am dv)) (kBeh dC dI A w) A) args s 0 0 A) (F0 m pc ls [.int r]) := fun H locs pc ls r hS hP hD hv d => k_iret hx hb hr hlocks hS hP hD hv d
  generalize MQ below _ _ _ _ _ _ = Q at hret ⊢
  have hl : lv_has ls 2 [(0, .int am), (1, .int dv)] := hl
  have hW : ∀ (H : Heap) (locs : List Loc), va_P (dC, dI) vwCl w H → va_D A w → va_S A s.heap H locs → W p l e rmX0_dividedRoundedUp s m args below meth c H locs 0 0 Q (F0 m 0 ls []) := by
    intro H locs hP hD hS
    refine lv_iload_n hx hb dX0_dividedRoundedUp_0 rfl (lv_at hl 1 rfl) ?_
    refine lv_iconst (v := 1) hx hb dX0_dividedRoundedUp_1 (by decide) ?_
    refine lv_icmp_ge (tgt := 9) hx hb dX0_dividedRoundedUp_2 (by decide) (fun c2 => ?_) (fun c2 => ?_)
    · refine lv_iload_n hx hb dX0_dividedRoundedUp_9 rfl (lv_at hl 0 rfl) ?_
      refine lv_iload_n hx hb dX0_dividedRoundedUp_10 rfl (lv_at hl 1 rfl) ?_
      refine lv_iadd hx hb dX0_dividedRoundedUp_11 ?_
      refine lv_iconst (v := 1) hx hb dX0_dividedRoundedUp_12 (by decide) ?_
      refine lv_isub hx hb dX0_dividedRoundedUp_13 ?_
      refine lv_iload_n hx hb dX0_dividedRoundedUp_14 rfl (lv_at hl 1 rfl) ?_
      refine lv_idiv hx hb dX0_dividedRoundedUp_15 (nz_ge c2) ?_
      exact hret H locs 16 ls (((am + dv) - 1) / dv) hS hP hD (by rw [X0_dividedRoundedUp, if_pos c2]) dX0_dividedRoundedUp_16
    · refine lv_iload_n hx hb dX0_dividedRoundedUp_5 rfl (lv_at hl 0 rfl) ?_
      refine lv_goto (tgt := 16) hx hb dX0_dividedRoundedUp_6 (by decide) ?_
      exact hret H locs 16 ls am hS hP hD (by rw [X0_dividedRoundedUp, if_neg c2]) dX0_dividedRoundedUp_16
  exact hW _ _ hP hD hS
def X0_hasCar (qne : AR) (i : Int32) : Int32 := (if (qne i.toNatClampNeg) = (-1) then 0 else 1)
abbrev rmX0_hasCar : Room := { frames := 0, cells := 0, slots := 0, locals := 0 }
theorem hd_X0_hasCar : yX0_hasCar.cls = RX0 ∧ yX0_hasCar.cls ≠ "java/lang/invoke/MethodHandle" ∧ yX0_hasCar.cls ≠ "java/lang/invoke/VarHandle" ∧ (parseMethodDescriptor yX0_hasCar.desc).map (fun d => d.parameters.length) = some 1 := by decide +kernel
set_option maxHeartbeats 4000000 in
set_option maxRecDepth 100000 in
theorem c_X0_hasCar (l : Launch) (dC : Nat → ClassId) (dI : Nat → Nat → Nat) (cI cZ : ClassId) (h : Nat) (a : Nat → Nat) (qph : AR) (qgr : AR) (qne : AR) (qap : AR) (qle : AR) (qfu : AR) (qpc : Int32) (qgd : Int32) (qri : Int32) (qnw : Int32) (qtk : Int32) (qsv : Int32) (qwa : AR) (qgi : AR) (qlo : AR) (qtu : AR) (i : Int32) (hp : vp_in i 8) : Ki l yX0_hasCar wsX0_hasCar rmX0_hasCar dC dI cI cZ [.ref h, .int i] (xW cI cZ h a qph qgr qne qap qle qfu qpc qgd qri qnw qtk qsv qwa qgi qlo qtu) (xW cI cZ h a qph qgr qne qap qle qfu qpc qgd qri qnw qtk qsv qwa qgi qlo qtu) (X0_hasCar qne i) := by
  refine k_enter_i (cc := cX0_hasCar) (maxL := 2) (ret := some .boolean) (by decide) rfl (Nat.le_of_ble_eq_true rfl) ?_
  intro p e s m below meth c A ls hC hr hlocks hK hP hD hS hA hl
  generalize List.toArray _ = args at hC ⊢
  obtain ⟨hx, hb, hml, hown, hts⟩ := id hC
  have hret : ∀ (H : Heap) (locs : List Loc) (pc : Nat) (ls : Array Slot) (r : Int32), va_S A s.heap H locs → va_P (dC, dI) vwCl (xW cI cZ h a qph qgr qne qap qle qfu qpc qgd qri qnw qtk qsv qwa qgi qlo qtu) H → va_D A (xW cI cZ h a qph qgr qne qap qle qfu qpc qgd qri qnw qtk qsv qwa qgi qlo qtu) → r = (X0_hasCar qne i) → (r = 0 ∨ r = 1) → decode cX0_hasCar pc = .ok (.ireturn, 1) → W p l e rmX0_hasCar s m args below meth c H locs 0 0 (MQ below (va_Qi (fun r (_ : Unit) => r = (X0_hasCar qne i)) (kBeh dC dI A (xW cI cZ h a qph qgr qne qap qle qfu qpc qgd qri qnw qtk qsv qwa qgi qlo qtu)) A) args s 0 0 A) (F0 m pc ls [.int r]) := fun H locs pc ls r hS hP hD hv hz d => k_zret hx hb hr hlocks hS hP hD hv hz d
  generalize MQ below _ _ _ _ _ _ = Q at hret ⊢
  have hin : ∀ w ∈ wsX00, w ∈ wsX0_hasCar := by decide +kernel
  have hw0 := hts (.fieldLink RX0 16 "ChargePark" "needOf" "[I") (by decide +kernel)
  have hl : lv_has ls 2 [(0, .ref h), (1, .int i)] := hl
  have hP : va_P (dC, dI) vwCl (xW cI cZ h a qph qgr qne qap qle qfu qpc qgd qri qnw qtk qsv qwa qgi qlo qtu) s.heap := hP
  have hW : ∀ (H : Heap) (locs : List Loc), va_P (dC, dI) vwCl (xW cI cZ h a qph qgr qne qap qle qfu qpc qgd qri qnw qtk qsv qwa qgi qlo qtu) H → va_D A (xW cI cZ h a qph qgr qne qap qle qfu qpc qgd qri qnw qtk qsv qwa qgi qlo qtu) → va_S A s.heap H locs → W p l e rmX0_hasCar s m args below meth c H locs 0 0 Q (F0 m 0 ls []) := by
    intro H locs hP hD hS
    refine lv_aload_n hx hb dX0_hasCar_0 rfl (lv_at hl 0 rfl) ?_
    refine va_get (D := (dC, dI)) (ci := 0) (v := .ref (a 2)) (C := RX0) (T := TX0) (N := 16) hx hb hts hin hown hK hP 0 rfl rfl 2 (by decide) hw0 (fun _ h9 => h9) rfl dX0_hasCar_1 ?_
    refine lv_iload_n hx hb dX0_hasCar_4 rfl (lv_at hl 1 rfl) ?_
    refine va_iald (f := qne) hx hb hK hP 3 0 rfl rfl hp dX0_hasCar_5 ?_
    refine lv_iconst (v := (-1)) hx hb dX0_hasCar_6 (by decide) ?_
    refine lv_icmp_eq (tgt := 14) hx hb dX0_hasCar_7 (by decide) (fun c7 => ?_) (fun c7 => ?_)
    · refine lv_iconst (v := 0) hx hb dX0_hasCar_14 (by decide) ?_
      exact hret H locs 15 ls 0 hS hP hD (by rw [X0_hasCar, if_pos c7]) (Or.inl rfl) dX0_hasCar_15
    · refine lv_iconst (v := 1) hx hb dX0_hasCar_10 (by decide) ?_
      refine lv_goto (tgt := 15) hx hb dX0_hasCar_11 (by decide) ?_
      exact hret H locs 15 ls 1 hS hP hD (by rw [X0_hasCar, if_neg c7]) (Or.inr rfl) dX0_hasCar_15
  exact hW _ _ hP hD hS
def X0_stepsLeftAt (qle : AR) (qnw : Int32) (i : Int32) : Int32 := (if ((qle i.toNatClampNeg) - qnw) < 0 then 0 else ((qle i.toNatClampNeg) - qnw))
abbrev rmX0_stepsLeftAt : Room := { frames := 1, cells := 0, slots := 0, locals := 13 }
theorem hd_X0_stepsLeftAt : yX0_stepsLeftAt.cls = RX0 ∧ yX0_stepsLeftAt.cls ≠ "java/lang/invoke/MethodHandle" ∧ yX0_stepsLeftAt.cls ≠ "java/lang/invoke/VarHandle" ∧ (parseMethodDescriptor yX0_stepsLeftAt.desc).map (fun d => d.parameters.length) = some 1 := by decide +kernel
set_option maxHeartbeats 4000000 in
set_option maxRecDepth 100000 in
theorem c_X0_stepsLeftAt (l : Launch) (dC : Nat → ClassId) (dI : Nat → Nat → Nat) (cI cZ : ClassId) (h : Nat) (a : Nat → Nat) (qph : AR) (qgr : AR) (qne : AR) (qap : AR) (qle : AR) (qfu : AR) (qpc : Int32) (qgd : Int32) (qri : Int32) (qnw : Int32) (qtk : Int32) (qsv : Int32) (qwa : AR) (qgi : AR) (qlo : AR) (qtu : AR) (i : Int32) (hp : vp_in i 8) : Ki l yX0_stepsLeftAt wsX0_stepsLeftAt rmX0_stepsLeftAt dC dI cI cZ [.ref h, .int i] (xW cI cZ h a qph qgr qne qap qle qfu qpc qgd qri qnw qtk qsv qwa qgi qlo qtu) (xW cI cZ h a qph qgr qne qap qle qfu qpc qgd qri qnw qtk qsv qwa qgi qlo qtu) (X0_stepsLeftAt qle qnw i) := by
  refine k_enter_i (cc := cX0_stepsLeftAt) (maxL := 2) (ret := some .int) (by decide) rfl (Nat.le_of_ble_eq_true rfl) ?_
  intro p e s m below meth c A ls hC hr hlocks hK hP hD hS hA hl
  generalize List.toArray _ = args at hC ⊢
  obtain ⟨hx, hb, hml, hown, hts⟩ := id hC
  have hret : ∀ (H : Heap) (locs : List Loc) (pc : Nat) (ls : Array Slot) (r : Int32), va_S A s.heap H locs → va_P (dC, dI) vwCl (xW cI cZ h a qph qgr qne qap qle qfu qpc qgd qri qnw qtk qsv qwa qgi qlo qtu) H → va_D A (xW cI cZ h a qph qgr qne qap qle qfu qpc qgd qri qnw qtk qsv qwa qgi qlo qtu) → r = (X0_stepsLeftAt qle qnw i) → decode cX0_stepsLeftAt pc = .ok (.ireturn, 1) → W p l e rmX0_stepsLeftAt s m args below meth c H locs 0 0 (MQ below (va_Qi (fun r (_ : Unit) => r = (X0_stepsLeftAt qle qnw i)) (kBeh dC dI A (xW cI cZ h a qph qgr qne qap qle qfu qpc qgd qri qnw qtk qsv qwa qgi qlo qtu)) A) args s 0 0 A) (F0 m pc ls [.int r]) := fun H locs pc ls r hS hP hD hv d => k_iret hx hb hr hlocks hS hP hD hv d
  generalize MQ below _ _ _ _ _ _ = Q at hret ⊢
  have hin : ∀ w ∈ wsX00, w ∈ wsX0_stepsLeftAt := by decide +kernel
  have hw0 := hts (.fieldLink RX0 22 "ChargePark" "leavesAt" "[I") (by decide +kernel)
  have hw1 := hts (.fieldLink RX0 74 "ChargePark" "now" "I") (by decide +kernel)
  have hw2 := hts (.methodLink RX0 87 Lib.Math.max.name) (by decide +kernel)
  have hw3 := hts (.static Lib.Math.max.name) (by decide +kernel)
  have hw4 := hts (.initialized "java/lang/Math") (by decide +kernel)
  have hw5 := hts (.code Lib.Math.max.name Lib.Math.max.code 2 (some .int)) (by decide +kernel)
  have hl : lv_has ls 2 [(0, .ref h), (1, .int i)] := hl
  have hP : va_P (dC, dI) vwCl (xW cI cZ h a qph qgr qne qap qle qfu qpc qgd qri qnw qtk qsv qwa qgi qlo qtu) s.heap := hP
  have hW : ∀ (H : Heap) (locs : List Loc), va_P (dC, dI) vwCl (xW cI cZ h a qph qgr qne qap qle qfu qpc qgd qri qnw qtk qsv qwa qgi qlo qtu) H → va_D A (xW cI cZ h a qph qgr qne qap qle qfu qpc qgd qri qnw qtk qsv qwa qgi qlo qtu) → va_S A s.heap H locs → W p l e rmX0_stepsLeftAt s m args below meth c H locs 0 0 Q (F0 m 0 ls []) := by
    intro H locs hP hD hS
    refine lv_aload_n hx hb dX0_stepsLeftAt_0 rfl (lv_at hl 0 rfl) ?_
    refine va_get (D := (dC, dI)) (ci := 0) (v := .ref (a 4)) (C := RX0) (T := TX0) (N := 16) hx hb hts hin hown hK hP 0 rfl rfl 4 (by decide) hw0 (fun _ h9 => h9) rfl dX0_stepsLeftAt_1 ?_
    refine lv_iload_n hx hb dX0_stepsLeftAt_4 rfl (lv_at hl 1 rfl) ?_
    refine va_iald (f := qle) hx hb hK hP 5 0 rfl rfl hp dX0_stepsLeftAt_5 ?_
    refine lv_aload_n hx hb dX0_stepsLeftAt_6 rfl (lv_at hl 0 rfl) ?_
    refine va_get (D := (dC, dI)) (ci := 0) (v := .int qnw) (C := RX0) (T := TX0) (N := 16) hx hb hts hin hown hK hP 0 rfl rfl 9 (by decide) hw1 (fun _ h9 => h9) rfl dX0_stepsLeftAt_7 ?_
    refine lv_isub hx hb dX0_stepsLeftAt_10 ?_
    refine lv_iconst (v := 0) hx hb dX0_stepsLeftAt_11 (by decide) ?_
    refine va_mmax hx hb (hml.trans hl.1.symm) hown hw2 hw3 hw4 hw5 (Nat.le_of_ble_eq_true rfl) (Nat.le_of_ble_eq_true rfl) (Nat.zero_le _) (Nat.zero_le _) dX0_stepsLeftAt_12 ?_
    exact hret H locs 15 ls (if ((qle i.toNatClampNeg) - qnw) < 0 then 0 else ((qle i.toNatClampNeg) - qnw)) hS hP hD (by rw [X0_stepsLeftAt]) dX0_stepsLeftAt_15
  exact hW _ _ hP hD hS
def X0_lesserOfGreatestAndAppetite (qgr : AR) (qap : AR) (i : Int32) : Int32 := (if (qap i.toNatClampNeg) < (qgr i.toNatClampNeg) then (qap i.toNatClampNeg) else (qgr i.toNatClampNeg))
abbrev rmX0_lesserOfGreatestAndAppetite : Room := { frames := 1, cells := 0, slots := 0, locals := 13 }
theorem hd_X0_lesserOfGreatestAndAppetite : yX0_lesserOfGreatestAndAppetite.cls = RX0 ∧ yX0_lesserOfGreatestAndAppetite.cls ≠ "java/lang/invoke/MethodHandle" ∧ yX0_lesserOfGreatestAndAppetite.cls ≠ "java/lang/invoke/VarHandle" ∧ (parseMethodDescriptor yX0_lesserOfGreatestAndAppetite.desc).map (fun d => d.parameters.length) = some 1 := by decide +kernel
set_option maxHeartbeats 4000000 in
set_option maxRecDepth 100000 in
theorem c_X0_lesserOfGreatestAndAppetite (l : Launch) (dC : Nat → ClassId) (dI : Nat → Nat → Nat) (cI cZ : ClassId) (h : Nat) (a : Nat → Nat) (qph : AR) (qgr : AR) (qne : AR) (qap : AR) (qle : AR) (qfu : AR) (qpc : Int32) (qgd : Int32) (qri : Int32) (qnw : Int32) (qtk : Int32) (qsv : Int32) (qwa : AR) (qgi : AR) (qlo : AR) (qtu : AR) (i : Int32) (hp : vp_in i 8) : Ki l yX0_lesserOfGreatestAndAppetite wsX0_lesserOfGreatestAndAppetite rmX0_lesserOfGreatestAndAppetite dC dI cI cZ [.ref h, .int i] (xW cI cZ h a qph qgr qne qap qle qfu qpc qgd qri qnw qtk qsv qwa qgi qlo qtu) (xW cI cZ h a qph qgr qne qap qle qfu qpc qgd qri qnw qtk qsv qwa qgi qlo qtu) (X0_lesserOfGreatestAndAppetite qgr qap i) := by
  refine k_enter_i (cc := cX0_lesserOfGreatestAndAppetite) (maxL := 2) (ret := some .int) (by decide) rfl (Nat.le_of_ble_eq_true rfl) ?_
  intro p e s m below meth c A ls hC hr hlocks hK hP hD hS hA hl
  generalize List.toArray _ = args at hC ⊢
  obtain ⟨hx, hb, hml, hown, hts⟩ := id hC
  have hret : ∀ (H : Heap) (locs : List Loc) (pc : Nat) (ls : Array Slot) (r : Int32), va_S A s.heap H locs → va_P (dC, dI) vwCl (xW cI cZ h a qph qgr qne qap qle qfu qpc qgd qri qnw qtk qsv qwa qgi qlo qtu) H → va_D A (xW cI cZ h a qph qgr qne qap qle qfu qpc qgd qri qnw qtk qsv qwa qgi qlo qtu) → r = (X0_lesserOfGreatestAndAppetite qgr qap i) → decode cX0_lesserOfGreatestAndAppetite pc = .ok (.ireturn, 1) → W p l e rmX0_lesserOfGreatestAndAppetite s m args below meth c H locs 0 0 (MQ below (va_Qi (fun r (_ : Unit) => r = (X0_lesserOfGreatestAndAppetite qgr qap i)) (kBeh dC dI A (xW cI cZ h a qph qgr qne qap qle qfu qpc qgd qri qnw qtk qsv qwa qgi qlo qtu)) A) args s 0 0 A) (F0 m pc ls [.int r]) := fun H locs pc ls r hS hP hD hv d => k_iret hx hb hr hlocks hS hP hD hv d
  generalize MQ below _ _ _ _ _ _ = Q at hret ⊢
  have hin : ∀ w ∈ wsX00, w ∈ wsX0_lesserOfGreatestAndAppetite := by decide +kernel
  have hw0 := hts (.fieldLink RX0 13 "ChargePark" "greatestOf" "[I") (by decide +kernel)
  have hw1 := hts (.fieldLink RX0 19 "ChargePark" "appetiteOf" "[I") (by decide +kernel)
  have hw2 := hts (.methodLink RX0 132 Lib.Math.min.name) (by decide +kernel)
  have hw3 := hts (.static Lib.Math.min.name) (by decide +kernel)
  have hw4 := hts (.initialized "java/lang/Math") (by decide +kernel)
  have hw5 := hts (.code Lib.Math.min.name Lib.Math.min.code 2 (some .int)) (by decide +kernel)
  have hl : lv_has ls 2 [(0, .ref h), (1, .int i)] := hl
  have hP : va_P (dC, dI) vwCl (xW cI cZ h a qph qgr qne qap qle qfu qpc qgd qri qnw qtk qsv qwa qgi qlo qtu) s.heap := hP
  have hW : ∀ (H : Heap) (locs : List Loc), va_P (dC, dI) vwCl (xW cI cZ h a qph qgr qne qap qle qfu qpc qgd qri qnw qtk qsv qwa qgi qlo qtu) H → va_D A (xW cI cZ h a qph qgr qne qap qle qfu qpc qgd qri qnw qtk qsv qwa qgi qlo qtu) → va_S A s.heap H locs → W p l e rmX0_lesserOfGreatestAndAppetite s m args below meth c H locs 0 0 Q (F0 m 0 ls []) := by
    intro H locs hP hD hS
    refine lv_aload_n hx hb dX0_lesserOfGreatestAndAppetite_0 rfl (lv_at hl 0 rfl) ?_
    refine va_get (D := (dC, dI)) (ci := 0) (v := .ref (a 1)) (C := RX0) (T := TX0) (N := 16) hx hb hts hin hown hK hP 0 rfl rfl 1 (by decide) hw0 (fun _ h9 => h9) rfl dX0_lesserOfGreatestAndAppetite_1 ?_
    refine lv_iload_n hx hb dX0_lesserOfGreatestAndAppetite_4 rfl (lv_at hl 1 rfl) ?_
    refine va_iald (f := qgr) hx hb hK hP 2 0 rfl rfl hp dX0_lesserOfGreatestAndAppetite_5 ?_
    refine lv_aload_n hx hb dX0_lesserOfGreatestAndAppetite_6 rfl (lv_at hl 0 rfl) ?_
    refine va_get (D := (dC, dI)) (ci := 0) (v := .ref (a 3)) (C := RX0) (T := TX0) (N := 16) hx hb hts hin hown hK hP 0 rfl rfl 3 (by decide) hw1 (fun _ h9 => h9) rfl dX0_lesserOfGreatestAndAppetite_7 ?_
    refine lv_iload_n hx hb dX0_lesserOfGreatestAndAppetite_10 rfl (lv_at hl 1 rfl) ?_
    refine va_iald (f := qap) hx hb hK hP 4 0 rfl rfl hp dX0_lesserOfGreatestAndAppetite_11 ?_
    refine va_mmin hx hb (hml.trans hl.1.symm) hown hw2 hw3 hw4 hw5 (Nat.le_of_ble_eq_true rfl) (Nat.le_of_ble_eq_true rfl) (Nat.zero_le _) (Nat.zero_le _) dX0_lesserOfGreatestAndAppetite_12 ?_
    exact hret H locs 15 ls (if (qap i.toNatClampNeg) < (qgr i.toNatClampNeg) then (qap i.toNatClampNeg) else (qgr i.toNatClampNeg)) hS hP hD (by rw [X0_lesserOfGreatestAndAppetite]) dX0_lesserOfGreatestAndAppetite_15
  exact hW _ _ hP hD hS
def X0_unitsPerAmpere (qph : AR) (i : Int32) : Int32 := (if (qph i.toNatClampNeg) = 3 then 3 else 1)
abbrev rmX0_unitsPerAmpere : Room := { frames := 0, cells := 0, slots := 0, locals := 0 }
theorem hd_X0_unitsPerAmpere : yX0_unitsPerAmpere.cls = RX0 ∧ yX0_unitsPerAmpere.cls ≠ "java/lang/invoke/MethodHandle" ∧ yX0_unitsPerAmpere.cls ≠ "java/lang/invoke/VarHandle" ∧ (parseMethodDescriptor yX0_unitsPerAmpere.desc).map (fun d => d.parameters.length) = some 1 := by decide +kernel
set_option maxHeartbeats 4000000 in
set_option maxRecDepth 100000 in
theorem c_X0_unitsPerAmpere (l : Launch) (dC : Nat → ClassId) (dI : Nat → Nat → Nat) (cI cZ : ClassId) (h : Nat) (a : Nat → Nat) (qph : AR) (qgr : AR) (qne : AR) (qap : AR) (qle : AR) (qfu : AR) (qpc : Int32) (qgd : Int32) (qri : Int32) (qnw : Int32) (qtk : Int32) (qsv : Int32) (qwa : AR) (qgi : AR) (qlo : AR) (qtu : AR) (i : Int32) (hp : vp_in i 8) : Ki l yX0_unitsPerAmpere wsX0_unitsPerAmpere rmX0_unitsPerAmpere dC dI cI cZ [.ref h, .int i] (xW cI cZ h a qph qgr qne qap qle qfu qpc qgd qri qnw qtk qsv qwa qgi qlo qtu) (xW cI cZ h a qph qgr qne qap qle qfu qpc qgd qri qnw qtk qsv qwa qgi qlo qtu) (X0_unitsPerAmpere qph i) := by
  refine k_enter_i (cc := cX0_unitsPerAmpere) (maxL := 2) (ret := some .int) (by decide) rfl (Nat.le_of_ble_eq_true rfl) ?_
  intro p e s m below meth c A ls hC hr hlocks hK hP hD hS hA hl
  generalize List.toArray _ = args at hC ⊢
  obtain ⟨hx, hb, hml, hown, hts⟩ := id hC
  have hret : ∀ (H : Heap) (locs : List Loc) (pc : Nat) (ls : Array Slot) (r : Int32), va_S A s.heap H locs → va_P (dC, dI) vwCl (xW cI cZ h a qph qgr qne qap qle qfu qpc qgd qri qnw qtk qsv qwa qgi qlo qtu) H → va_D A (xW cI cZ h a qph qgr qne qap qle qfu qpc qgd qri qnw qtk qsv qwa qgi qlo qtu) → r = (X0_unitsPerAmpere qph i) → decode cX0_unitsPerAmpere pc = .ok (.ireturn, 1) → W p l e rmX0_unitsPerAmpere s m args below meth c H locs 0 0 (MQ below (va_Qi (fun r (_ : Unit) => r = (X0_unitsPerAmpere qph i)) (kBeh dC dI A (xW cI cZ h a qph qgr qne qap qle qfu qpc qgd qri qnw qtk qsv qwa qgi qlo qtu)) A) args s 0 0 A) (F0 m pc ls [.int r]) := fun H locs pc ls r hS hP hD hv d => k_iret hx hb hr hlocks hS hP hD hv d
  generalize MQ below _ _ _ _ _ _ = Q at hret ⊢
  have hin : ∀ w ∈ wsX00, w ∈ wsX0_unitsPerAmpere := by decide +kernel
  have hw0 := hts (.fieldLink RX0 9 "ChargePark" "phaseOf" "[I") (by decide +kernel)
  have hl : lv_has ls 2 [(0, .ref h), (1, .int i)] := hl
  have hP : va_P (dC, dI) vwCl (xW cI cZ h a qph qgr qne qap qle qfu qpc qgd qri qnw qtk qsv qwa qgi qlo qtu) s.heap := hP
  have hW : ∀ (H : Heap) (locs : List Loc), va_P (dC, dI) vwCl (xW cI cZ h a qph qgr qne qap qle qfu qpc qgd qri qnw qtk qsv qwa qgi qlo qtu) H → va_D A (xW cI cZ h a qph qgr qne qap qle qfu qpc qgd qri qnw qtk qsv qwa qgi qlo qtu) → va_S A s.heap H locs → W p l e rmX0_unitsPerAmpere s m args below meth c H locs 0 0 Q (F0 m 0 ls []) := by
    intro H locs hP hD hS
    refine lv_aload_n hx hb dX0_unitsPerAmpere_0 rfl (lv_at hl 0 rfl) ?_
    refine va_get (D := (dC, dI)) (ci := 0) (v := .ref (a 0)) (C := RX0) (T := TX0) (N := 16) hx hb hts hin hown hK hP 0 rfl rfl 0 (by decide) hw0 (fun _ h9 => h9) rfl dX0_unitsPerAmpere_1 ?_
    refine lv_iload_n hx hb dX0_unitsPerAmpere_4 rfl (lv_at hl 1 rfl) ?_
    refine va_iald (f := qph) hx hb hK hP 1 0 rfl rfl hp dX0_unitsPerAmpere_5 ?_
    refine lv_iconst (v := 3) hx hb dX0_unitsPerAmpere_6 (by decide) ?_
    refine lv_icmp_ne (tgt := 14) hx hb dX0_unitsPerAmpere_7 (by decide) (fun c7 => ?_) (fun c7 => ?_)
    · refine lv_iconst (v := 1) hx hb dX0_unitsPerAmpere_14 (by decide) ?_
      exact hret H locs 15 ls 1 hS hP hD (by rw [X0_unitsPerAmpere, if_neg c7]) dX0_unitsPerAmpere_15
    · refine lv_iconst (v := 3) hx hb dX0_unitsPerAmpere_10 (by decide) ?_
      refine lv_goto (tgt := 15) hx hb dX0_unitsPerAmpere_11 (by decide) ?_
      exact hret H locs 15 ls 3 hS hP hD (by rw [X0_unitsPerAmpere, if_pos c7]) dX0_unitsPerAmpere_15
  exact hW _ _ hP hD hS
def X0_laxityAt (qph : AR) (qgr : AR) (qne : AR) (qap : AR) (qle : AR) (qnw : Int32) (i : Int32) : Int32 := ((X0_stepsLeftAt qle qnw i) - (X0_dividedRoundedUp (qne i.toNatClampNeg) ((X0_lesserOfGreatestAndAppetite qgr qap i) * (X0_unitsPerAmpere qph i))))
abbrev rmX0_laxityAt : Room := { frames := 2, cells := 0, slots := 0, locals := 34 }
theorem hd_X0_laxityAt : yX0_laxityAt.cls = RX0 ∧ yX0_laxityAt.cls ≠ "java/lang/invoke/MethodHandle" ∧ yX0_laxityAt.cls ≠ "java/lang/invoke/VarHandle" ∧ (parseMethodDescriptor yX0_laxityAt.desc).map (fun d => d.parameters.length) = some 1 := by decide +kernel
set_option maxHeartbeats 4000000 in
set_option maxRecDepth 100000 in
theorem c_X0_laxityAt (l : Launch) (dC : Nat → ClassId) (dI : Nat → Nat → Nat) (cI cZ : ClassId) (h : Nat) (a : Nat → Nat) (qph : AR) (qgr : AR) (qne : AR) (qap : AR) (qle : AR) (qfu : AR) (qpc : Int32) (qgd : Int32) (qri : Int32) (qnw : Int32) (qtk : Int32) (qsv : Int32) (qwa : AR) (qgi : AR) (qlo : AR) (qtu : AR) (i : Int32) (hp : vp_in i 8) : Ki l yX0_laxityAt wsX0_laxityAt rmX0_laxityAt dC dI cI cZ [.ref h, .int i] (xW cI cZ h a qph qgr qne qap qle qfu qpc qgd qri qnw qtk qsv qwa qgi qlo qtu) (xW cI cZ h a qph qgr qne qap qle qfu qpc qgd qri qnw qtk qsv qwa qgi qlo qtu) (X0_laxityAt qph qgr qne qap qle qnw i) := by
  refine k_enter_i (cc := cX0_laxityAt) (maxL := 3) (ret := some .int) (by decide) rfl (Nat.le_of_ble_eq_true rfl) ?_
  intro p e s m below meth c A ls hC hr hlocks hK hP hD hS hA hl
  generalize List.toArray _ = args at hC ⊢
  obtain ⟨hx, hb, hml, hown, hts⟩ := id hC
  have hret : ∀ (H : Heap) (locs : List Loc) (pc : Nat) (ls : Array Slot) (r : Int32), va_S A s.heap H locs → va_P (dC, dI) vwCl (xW cI cZ h a qph qgr qne qap qle qfu qpc qgd qri qnw qtk qsv qwa qgi qlo qtu) H → va_D A (xW cI cZ h a qph qgr qne qap qle qfu qpc qgd qri qnw qtk qsv qwa qgi qlo qtu) → r = (X0_laxityAt qph qgr qne qap qle qnw i) → decode cX0_laxityAt pc = .ok (.ireturn, 1) → W p l e rmX0_laxityAt s m args below meth c H locs 0 0 (MQ below (va_Qi (fun r (_ : Unit) => r = (X0_laxityAt qph qgr qne qap qle qnw i)) (kBeh dC dI A (xW cI cZ h a qph qgr qne qap qle qfu qpc qgd qri qnw qtk qsv qwa qgi qlo qtu)) A) args s 0 0 A) (F0 m pc ls [.int r]) := fun H locs pc ls r hS hP hD hv d => k_iret hx hb hr hlocks hS hP hD hv d
  generalize MQ below _ _ _ _ _ _ = Q at hret ⊢
  have hin : ∀ w ∈ wsX00, w ∈ wsX0_laxityAt := by decide +kernel
  have hw0 := hts (.fieldLink RX0 16 "ChargePark" "needOf" "[I") (by decide +kernel)
  have hl : lv_has ls 3 [(0, .ref h), (1, .int i)] := hl
  have hP : va_P (dC, dI) vwCl (xW cI cZ h a qph qgr qne qap qle qfu qpc qgd qri qnw qtk qsv qwa qgi qlo qtu) s.heap := hP
  have hW : ∀ (H : Heap) (locs : List Loc), va_P (dC, dI) vwCl (xW cI cZ h a qph qgr qne qap qle qfu qpc qgd qri qnw qtk qsv qwa qgi qlo qtu) H → va_D A (xW cI cZ h a qph qgr qne qap qle qfu qpc qgd qri qnw qtk qsv qwa qgi qlo qtu) → va_S A s.heap H locs → W p l e rmX0_laxityAt s m args below meth c H locs 0 0 Q (F0 m 0 ls []) := by
    intro H locs hP hD hS
    refine lv_aload_n hx hb dX0_laxityAt_0 rfl (lv_at hl 0 rfl) ?_
    refine lv_iload_n hx hb dX0_laxityAt_1 rfl (lv_at hl 1 rfl) ?_
    refine k_calli (rest := []) (q0 := 0) hC (c_X0_lesserOfGreatestAndAppetite l dC dI cI cZ h a qph qgr qne qap qle qfu qpc qgd qri qnw qtk qsv qwa qgi qlo qtu  i hp) (cwV 1 hts gX0_laxityAt_X0_lesserOfGreatestAndAppetite rfl rfl rfl hd_X0_lesserOfGreatestAndAppetite ⟨Nat.le_of_ble_eq_true rfl, Nat.le_of_ble_eq_true rfl⟩) hK hP hD hS hA rfl rfl rfl hl.1 (Nat.le_of_ble_eq_true rfl) dX0_laxityAt_2 rfl ⟨Nat.zero_le _, Nat.zero_le _⟩ (fun H locs hP hD hS => ?_)
    refine lv_aload_n hx hb dX0_laxityAt_5 rfl (lv_at hl 0 rfl) ?_
    refine lv_iload_n hx hb dX0_laxityAt_6 rfl (lv_at hl 1 rfl) ?_
    refine k_calli (rest := [.int (X0_lesserOfGreatestAndAppetite qgr qap i)]) (q0 := 0) hC (c_X0_unitsPerAmpere l dC dI cI cZ h a qph qgr qne qap qle qfu qpc qgd qri qnw qtk qsv qwa qgi qlo qtu  i hp) (cwV 1 hts gX0_laxityAt_X0_unitsPerAmpere rfl rfl rfl hd_X0_unitsPerAmpere ⟨Nat.le_of_ble_eq_true rfl, Nat.le_of_ble_eq_true rfl⟩) hK hP hD hS hA rfl rfl rfl hl.1 (Nat.le_of_ble_eq_true rfl) dX0_laxityAt_7 rfl ⟨Nat.zero_le _, Nat.zero_le _⟩ (fun H locs hP hD hS => ?_)
    refine lv_imul hx hb dX0_laxityAt_10 ?_
    refine lv_istore_n (lv' := [(2, .int ((X0_lesserOfGreatestAndAppetite qgr qap i) * (X0_unitsPerAmpere qph i))), (0, .ref h), (1, .int i)]) hx hb dX0_laxityAt_11 rfl hl (by decide) rfl (fun ls hl => ?_)
    refine lv_aload_n hx hb dX0_laxityAt_12 rfl (lv_at hl 1 rfl) ?_
    refine lv_iload_n hx hb dX0_laxityAt_13 rfl (lv_at hl 2 rfl) ?_
    refine k_calli (rest := []) (q0 := 0) hC (c_X0_stepsLeftAt l dC dI cI cZ h a qph qgr qne qap qle qfu qpc qgd qri qnw qtk qsv qwa qgi qlo qtu  i hp) (cwV 1 hts gX0_laxityAt_X0_stepsLeftAt rfl rfl rfl hd_X0_stepsLeftAt ⟨Nat.le_of_ble_eq_true rfl, Nat.le_of_ble_eq_true rfl⟩) hK hP hD hS hA rfl rfl rfl hl.1 (Nat.le_of_ble_eq_true rfl) dX0_laxityAt_14 rfl ⟨Nat.zero_le _, Nat.zero_le _⟩ (fun H locs hP hD hS => ?_)
    refine lv_aload_n hx hb dX0_laxityAt_17 rfl (lv_at hl 1 rfl) ?_
    refine va_get (D := (dC, dI)) (ci := 0) (v := .ref (a 2)) (C := RX0) (T := TX0) (N := 16) hx hb hts hin hown hK hP 0 rfl rfl 2 (by decide) hw0 (fun _ h9 => h9) rfl dX0_laxityAt_18 ?_
    refine lv_iload_n hx hb dX0_laxityAt_21 rfl (lv_at hl 2 rfl) ?_
    refine va_iald (f := qne) hx hb hK hP 3 0 rfl rfl hp dX0_laxityAt_22 ?_
    refine lv_iload_n hx hb dX0_laxityAt_23 rfl (lv_at hl 0 rfl) ?_
    refine k_calls (rest := [.int (X0_stepsLeftAt qle qnw i)]) (As := [.int (qne i.toNatClampNeg), .int ((X0_lesserOfGreatestAndAppetite qgr qap i) * (X0_unitsPerAmpere qph i))]) hC (c_X0_dividedRoundedUp l dC dI cI cZ (xW cI cZ h a qph qgr qne qap qle qfu qpc qgd qri qnw qtk qsv qwa qgi qlo qtu) (qne i.toNatClampNeg) ((X0_lesserOfGreatestAndAppetite qgr qap i) * (X0_unitsPerAmpere qph i)) ) (va_cwS 2 hts gX0_laxityAt_X0_dividedRoundedUp rfl rfl rfl hd_X0_dividedRoundedUp ⟨Nat.le_of_ble_eq_true rfl, Nat.le_of_ble_eq_true rfl⟩) hK hP hD hS hA rfl hl.1 (Nat.le_of_ble_eq_true rfl) dX0_laxityAt_24 rfl ⟨Nat.zero_le _, Nat.zero_le _⟩ (fun H locs hP hD hS => ?_)
    refine lv_isub hx hb dX0_laxityAt_27 ?_
    exact hret H locs 28 ls ((X0_stepsLeftAt qle qnw i) - (X0_dividedRoundedUp (qne i.toNatClampNeg) ((X0_lesserOfGreatestAndAppetite qgr qap i) * (X0_unitsPerAmpere qph i)))) hS hP hD (by rw [X0_laxityAt]) dX0_laxityAt_28
  exact hW _ _ hP hD hS
def X0_isToBeGiven (qne : AR) (qle : AR) (qnw : Int32) (i : Int32) : Int32 := (if (qne i.toNatClampNeg) ≤ 0 then 0 else (if (qle i.toNatClampNeg) ≤ qnw then 0 else 1))
abbrev rmX0_isToBeGiven : Room := { frames := 0, cells := 0, slots := 0, locals := 0 }
theorem hd_X0_isToBeGiven : yX0_isToBeGiven.cls = RX0 ∧ yX0_isToBeGiven.cls ≠ "java/lang/invoke/MethodHandle" ∧ yX0_isToBeGiven.cls ≠ "java/lang/invoke/VarHandle" ∧ (parseMethodDescriptor yX0_isToBeGiven.desc).map (fun d => d.parameters.length) = some 1 := by decide +kernel
set_option maxHeartbeats 4000000 in
set_option maxRecDepth 100000 in
theorem c_X0_isToBeGiven (l : Launch) (dC : Nat → ClassId) (dI : Nat → Nat → Nat) (cI cZ : ClassId) (h : Nat) (a : Nat → Nat) (qph : AR) (qgr : AR) (qne : AR) (qap : AR) (qle : AR) (qfu : AR) (qpc : Int32) (qgd : Int32) (qri : Int32) (qnw : Int32) (qtk : Int32) (qsv : Int32) (qwa : AR) (qgi : AR) (qlo : AR) (qtu : AR) (i : Int32) (hp : vp_in i 8) : Ki l yX0_isToBeGiven wsX0_isToBeGiven rmX0_isToBeGiven dC dI cI cZ [.ref h, .int i] (xW cI cZ h a qph qgr qne qap qle qfu qpc qgd qri qnw qtk qsv qwa qgi qlo qtu) (xW cI cZ h a qph qgr qne qap qle qfu qpc qgd qri qnw qtk qsv qwa qgi qlo qtu) (X0_isToBeGiven qne qle qnw i) := by
  refine k_enter_i (cc := cX0_isToBeGiven) (maxL := 2) (ret := some .boolean) (by decide) rfl (Nat.le_of_ble_eq_true rfl) ?_
  intro p e s m below meth c A ls hC hr hlocks hK hP hD hS hA hl
  generalize List.toArray _ = args at hC ⊢
  obtain ⟨hx, hb, hml, hown, hts⟩ := id hC
  have hret : ∀ (H : Heap) (locs : List Loc) (pc : Nat) (ls : Array Slot) (r : Int32), va_S A s.heap H locs → va_P (dC, dI) vwCl (xW cI cZ h a qph qgr qne qap qle qfu qpc qgd qri qnw qtk qsv qwa qgi qlo qtu) H → va_D A (xW cI cZ h a qph qgr qne qap qle qfu qpc qgd qri qnw qtk qsv qwa qgi qlo qtu) → r = (X0_isToBeGiven qne qle qnw i) → (r = 0 ∨ r = 1) → decode cX0_isToBeGiven pc = .ok (.ireturn, 1) → W p l e rmX0_isToBeGiven s m args below meth c H locs 0 0 (MQ below (va_Qi (fun r (_ : Unit) => r = (X0_isToBeGiven qne qle qnw i)) (kBeh dC dI A (xW cI cZ h a qph qgr qne qap qle qfu qpc qgd qri qnw qtk qsv qwa qgi qlo qtu)) A) args s 0 0 A) (F0 m pc ls [.int r]) := fun H locs pc ls r hS hP hD hv hz d => k_zret hx hb hr hlocks hS hP hD hv hz d
  generalize MQ below _ _ _ _ _ _ = Q at hret ⊢
  have hin : ∀ w ∈ wsX00, w ∈ wsX0_isToBeGiven := by decide +kernel
  have hw0 := hts (.fieldLink RX0 16 "ChargePark" "needOf" "[I") (by decide +kernel)
  have hw1 := hts (.fieldLink RX0 22 "ChargePark" "leavesAt" "[I") (by decide +kernel)
  have hw2 := hts (.fieldLink RX0 74 "ChargePark" "now" "I") (by decide +kernel)
  have hl : lv_has ls 2 [(0, .ref h), (1, .int i)] := hl
  have hP : va_P (dC, dI) vwCl (xW cI cZ h a qph qgr qne qap qle qfu qpc qgd qri qnw qtk qsv qwa qgi qlo qtu) s.heap := hP
  have hW : ∀ (H : Heap) (locs : List Loc), va_P (dC, dI) vwCl (xW cI cZ h a qph qgr qne qap qle qfu qpc qgd qri qnw qtk qsv qwa qgi qlo qtu) H → va_D A (xW cI cZ h a qph qgr qne qap qle qfu qpc qgd qri qnw qtk qsv qwa qgi qlo qtu) → va_S A s.heap H locs → W p l e rmX0_isToBeGiven s m args below meth c H locs 0 0 Q (F0 m 0 ls []) := by
    intro H locs hP hD hS
    refine lv_aload_n hx hb dX0_isToBeGiven_0 rfl (lv_at hl 0 rfl) ?_
    refine va_get (D := (dC, dI)) (ci := 0) (v := .ref (a 2)) (C := RX0) (T := TX0) (N := 16) hx hb hts hin hown hK hP 0 rfl rfl 2 (by decide) hw0 (fun _ h9 => h9) rfl dX0_isToBeGiven_1 ?_
    refine lv_iload_n hx hb dX0_isToBeGiven_4 rfl (lv_at hl 1 rfl) ?_
    refine va_iald (f := qne) hx hb hK hP 3 0 rfl rfl hp dX0_isToBeGiven_5 ?_
    refine lv_if_le (tgt := 26) hx hb dX0_isToBeGiven_6 (by decide) (fun c6 => ?_) (fun c6 => ?_)
    · refine lv_iconst (v := 0) hx hb dX0_isToBeGiven_26 (by decide) ?_
      exact hret H locs 27 ls 0 hS hP hD (by rw [X0_isToBeGiven, if_pos c6]) (Or.inl rfl) dX0_isToBeGiven_27
    · refine lv_aload_n hx hb dX0_isToBeGiven_9 rfl (lv_at hl 0 rfl) ?_
      refine va_get (D := (dC, dI)) (ci := 0) (v := .ref (a 4)) (C := RX0) (T := TX0) (N := 16) hx hb hts hin hown hK hP 0 rfl rfl 4 (by decide) hw1 (fun _ h9 => h9) rfl dX0_isToBeGiven_10 ?_
      refine lv_iload_n hx hb dX0_isToBeGiven_13 rfl (lv_at hl 1 rfl) ?_
      refine va_iald (f := qle) hx hb hK hP 5 0 rfl rfl hp dX0_isToBeGiven_14 ?_
      refine lv_aload_n hx hb dX0_isToBeGiven_15 rfl (lv_at hl 0 rfl) ?_
      refine va_get (D := (dC, dI)) (ci := 0) (v := .int qnw) (C := RX0) (T := TX0) (N := 16) hx hb hts hin hown hK hP 0 rfl rfl 9 (by decide) hw2 (fun _ h9 => h9) rfl dX0_isToBeGiven_16 ?_
      refine lv_icmp_le (tgt := 26) hx hb dX0_isToBeGiven_19 (by decide) (fun c19 => ?_) (fun c19 => ?_)
      · refine lv_iconst (v := 0) hx hb dX0_isToBeGiven_26 (by decide) ?_
        exact hret H locs 27 ls 0 hS hP hD (by rw [X0_isToBeGiven, if_neg c6, if_pos c19]) (Or.inl rfl) dX0_isToBeGiven_27
      · refine lv_iconst (v := 1) hx hb dX0_isToBeGiven_22 (by decide) ?_
        refine lv_goto (tgt := 27) hx hb dX0_isToBeGiven_23 (by decide) ?_
        exact hret H locs 27 ls 1 hS hP hD (by rw [X0_isToBeGiven, if_neg c6, if_neg c19]) (Or.inr rfl) dX0_isToBeGiven_27
  exact hW _ _ hP hD hS
def X0_reachAt (qph : AR) (qgr : AR) (qne : AR) (qap : AR) (qle : AR) (qnw : Int32) (i : Int32) : Int32 := (if (X0_isToBeGiven qne qle qnw i) = 0 then 0 else (if (X0_dividedRoundedUp (qne i.toNatClampNeg) (X0_unitsPerAmpere qph i)) < (X0_lesserOfGreatestAndAppetite qgr qap i) then (X0_dividedRoundedUp (qne i.toNatClampNeg) (X0_unitsPerAmpere qph i)) else (X0_lesserOfGreatestAndAppetite qgr qap i)))
abbrev rmX0_reachAt : Room := { frames := 2, cells := 0, slots := 0, locals := 34 }
theorem hd_X0_reachAt : yX0_reachAt.cls = RX0 ∧ yX0_reachAt.cls ≠ "java/lang/invoke/MethodHandle" ∧ yX0_reachAt.cls ≠ "java/lang/invoke/VarHandle" ∧ (parseMethodDescriptor yX0_reachAt.desc).map (fun d => d.parameters.length) = some 1 := by decide +kernel
set_option maxHeartbeats 4000000 in
set_option maxRecDepth 100000 in
theorem c_X0_reachAt (l : Launch) (dC : Nat → ClassId) (dI : Nat → Nat → Nat) (cI cZ : ClassId) (h : Nat) (a : Nat → Nat) (qph : AR) (qgr : AR) (qne : AR) (qap : AR) (qle : AR) (qfu : AR) (qpc : Int32) (qgd : Int32) (qri : Int32) (qnw : Int32) (qtk : Int32) (qsv : Int32) (qwa : AR) (qgi : AR) (qlo : AR) (qtu : AR) (i : Int32) (hp : vp_in i 8) : Ki l yX0_reachAt wsX0_reachAt rmX0_reachAt dC dI cI cZ [.ref h, .int i] (xW cI cZ h a qph qgr qne qap qle qfu qpc qgd qri qnw qtk qsv qwa qgi qlo qtu) (xW cI cZ h a qph qgr qne qap qle qfu qpc qgd qri qnw qtk qsv qwa qgi qlo qtu) (X0_reachAt qph qgr qne qap qle qnw i) := by
  refine k_enter_i (cc := cX0_reachAt) (maxL := 3) (ret := some .int) (by decide) rfl (Nat.le_of_ble_eq_true rfl) ?_
  intro p e s m below meth c A ls hC hr hlocks hK hP hD hS hA hl
  generalize List.toArray _ = args at hC ⊢
  obtain ⟨hx, hb, hml, hown, hts⟩ := id hC
  have hret : ∀ (H : Heap) (locs : List Loc) (pc : Nat) (ls : Array Slot) (r : Int32), va_S A s.heap H locs → va_P (dC, dI) vwCl (xW cI cZ h a qph qgr qne qap qle qfu qpc qgd qri qnw qtk qsv qwa qgi qlo qtu) H → va_D A (xW cI cZ h a qph qgr qne qap qle qfu qpc qgd qri qnw qtk qsv qwa qgi qlo qtu) → r = (X0_reachAt qph qgr qne qap qle qnw i) → decode cX0_reachAt pc = .ok (.ireturn, 1) → W p l e rmX0_reachAt s m args below meth c H locs 0 0 (MQ below (va_Qi (fun r (_ : Unit) => r = (X0_reachAt qph qgr qne qap qle qnw i)) (kBeh dC dI A (xW cI cZ h a qph qgr qne qap qle qfu qpc qgd qri qnw qtk qsv qwa qgi qlo qtu)) A) args s 0 0 A) (F0 m pc ls [.int r]) := fun H locs pc ls r hS hP hD hv d => k_iret hx hb hr hlocks hS hP hD hv d
  generalize MQ below _ _ _ _ _ _ = Q at hret ⊢
  have hin : ∀ w ∈ wsX00, w ∈ wsX0_reachAt := by decide +kernel
  have hw0 := hts (.fieldLink RX0 16 "ChargePark" "needOf" "[I") (by decide +kernel)
  have hw1 := hts (.methodLink RX0 132 Lib.Math.min.name) (by decide +kernel)
  have hw2 := hts (.static Lib.Math.min.name) (by decide +kernel)
  have hw3 := hts (.initialized "java/lang/Math") (by decide +kernel)
  have hw4 := hts (.code Lib.Math.min.name Lib.Math.min.code 2 (some .int)) (by decide +kernel)
  have hl : lv_has ls 3 [(0, .ref h), (1, .int i)] := hl
  have hP : va_P (dC, dI) vwCl (xW cI cZ h a qph qgr qne qap qle qfu qpc qgd qri qnw qtk qsv qwa qgi qlo qtu) s.heap := hP
  have hW : ∀ (H : Heap) (locs : List Loc), va_P (dC, dI) vwCl (xW cI cZ h a qph qgr qne qap qle qfu qpc qgd qri qnw qtk qsv qwa qgi qlo qtu) H → va_D A (xW cI cZ h a qph qgr qne qap qle qfu qpc qgd qri qnw qtk qsv qwa qgi qlo qtu) → va_S A s.heap H locs → W p l e rmX0_reachAt s m args below meth c H locs 0 0 Q (F0 m 0 ls []) := by
    intro H locs hP hD hS
    refine lv_aload_n hx hb dX0_reachAt_0 rfl (lv_at hl 0 rfl) ?_
    refine lv_iload_n hx hb dX0_reachAt_1 rfl (lv_at hl 1 rfl) ?_
    refine k_calli (rest := []) (q0 := 0) hC (c_X0_isToBeGiven l dC dI cI cZ h a qph qgr qne qap qle qfu qpc qgd qri qnw qtk qsv qwa qgi qlo qtu  i hp) (cwV 1 hts gX0_reachAt_X0_isToBeGiven rfl rfl rfl hd_X0_isToBeGiven ⟨Nat.le_of_ble_eq_true rfl, Nat.le_of_ble_eq_true rfl⟩) hK hP hD hS hA rfl rfl rfl hl.1 (Nat.le_of_ble_eq_true rfl) dX0_reachAt_2 rfl ⟨Nat.zero_le _, Nat.zero_le _⟩ (fun H locs hP hD hS => ?_)
    refine lv_if_ne (tgt := 10) hx hb dX0_reachAt_5 (by decide) (fun c5 => ?_) (fun c5 => ?_)
    · refine lv_aload_n hx hb dX0_reachAt_10 rfl (lv_at hl 0 rfl) ?_
      refine va_get (D := (dC, dI)) (ci := 0) (v := .ref (a 2)) (C := RX0) (T := TX0) (N := 16) hx hb hts hin hown hK hP 0 rfl rfl 2 (by decide) hw0 (fun _ h9 => h9) rfl dX0_reachAt_11 ?_
      refine lv_iload_n hx hb dX0_reachAt_14 rfl (lv_at hl 1 rfl) ?_
      refine va_iald (f := qne) hx hb hK hP 3 0 rfl rfl hp dX0_reachAt_15 ?_
      refine lv_aload_n hx hb dX0_reachAt_16 rfl (lv_at hl 0 rfl) ?_
      refine lv_iload_n hx hb dX0_reachAt_17 rfl (lv_at hl 1 rfl) ?_
      refine k_calli (rest := [.int (qne i.toNatClampNeg)]) (q0 := 0) hC (c_X0_unitsPerAmpere l dC dI cI cZ h a qph qgr qne qap qle qfu qpc qgd qri qnw qtk qsv qwa qgi qlo qtu  i hp) (cwV 1 hts gX0_reachAt_X0_unitsPerAmpere rfl rfl rfl hd_X0_unitsPerAmpere ⟨Nat.le_of_ble_eq_true rfl, Nat.le_of_ble_eq_true rfl⟩) hK hP hD hS hA rfl rfl rfl hl.1 (Nat.le_of_ble_eq_true rfl) dX0_reachAt_18 rfl ⟨Nat.zero_le _, Nat.zero_le _⟩ (fun H locs hP hD hS => ?_)
      refine k_calls (rest := []) (As := [.int (qne i.toNatClampNeg), .int (X0_unitsPerAmpere qph i)]) hC (c_X0_dividedRoundedUp l dC dI cI cZ (xW cI cZ h a qph qgr qne qap qle qfu qpc qgd qri qnw qtk qsv qwa qgi qlo qtu) (qne i.toNatClampNeg) (X0_unitsPerAmpere qph i) ) (va_cwS 2 hts gX0_reachAt_X0_dividedRoundedUp rfl rfl rfl hd_X0_dividedRoundedUp ⟨Nat.le_of_ble_eq_true rfl, Nat.le_of_ble_eq_true rfl⟩) hK hP hD hS hA rfl hl.1 (Nat.le_of_ble_eq_true rfl) dX0_reachAt_21 rfl ⟨Nat.zero_le _, Nat.zero_le _⟩ (fun H locs hP hD hS => ?_)
      refine lv_istore_n (lv' := [(2, .int (X0_dividedRoundedUp (qne i.toNatClampNeg) (X0_unitsPerAmpere qph i))), (0, .ref h), (1, .int i)]) hx hb dX0_reachAt_24 rfl hl (by decide) rfl (fun ls hl => ?_)
      refine lv_aload_n hx hb dX0_reachAt_25 rfl (lv_at hl 1 rfl) ?_
      refine lv_iload_n hx hb dX0_reachAt_26 rfl (lv_at hl 2 rfl) ?_
      refine k_calli (rest := []) (q0 := 0) hC (c_X0_lesserOfGreatestAndAppetite l dC dI cI cZ h a qph qgr qne qap qle qfu qpc qgd qri qnw qtk qsv qwa qgi qlo qtu  i hp) (cwV 1 hts gX0_reachAt_X0_lesserOfGreatestAndAppetite rfl rfl rfl hd_X0_lesserOfGreatestAndAppetite ⟨Nat.le_of_ble_eq_true rfl, Nat.le_of_ble_eq_true rfl⟩) hK hP hD hS hA rfl rfl rfl hl.1 (Nat.le_of_ble_eq_true rfl) dX0_reachAt_27 rfl ⟨Nat.zero_le _, Nat.zero_le _⟩ (fun H locs hP hD hS => ?_)
      refine lv_iload_n hx hb dX0_reachAt_30 rfl (lv_at hl 0 rfl) ?_
      refine va_mmin hx hb (hml.trans hl.1.symm) hown hw1 hw2 hw3 hw4 (Nat.le_of_ble_eq_true rfl) (Nat.le_of_ble_eq_true rfl) (Nat.zero_le _) (Nat.zero_le _) dX0_reachAt_31 ?_
      exact hret H locs 34 ls (if (X0_dividedRoundedUp (qne i.toNatClampNeg) (X0_unitsPerAmpere qph i)) < (X0_lesserOfGreatestAndAppetite qgr qap i) then (X0_dividedRoundedUp (qne i.toNatClampNeg) (X0_unitsPerAmpere qph i)) else (X0_lesserOfGreatestAndAppetite qgr qap i)) hS hP hD (by rw [X0_reachAt, if_neg c5]) dX0_reachAt_34
    · refine lv_iconst (v := 0) hx hb dX0_reachAt_8 (by decide) ?_
      exact hret H locs 9 ls 0 hS hP hD (by rw [X0_reachAt, if_pos c5]) dX0_reachAt_9
  exact hW _ _ hP hD hS
def X0_isAt (qph : AR) (i : Int32) (f : Int32) : Int32 := (if (qph i.toNatClampNeg) = f then 1 else (if (qph i.toNatClampNeg) = 3 then 1 else 0))
abbrev rmX0_isAt : Room := { frames := 0, cells := 0, slots := 0, locals := 0 }
theorem hd_X0_isAt : yX0_isAt.cls = RX0 ∧ yX0_isAt.cls ≠ "java/lang/invoke/MethodHandle" ∧ yX0_isAt.cls ≠ "java/lang/invoke/VarHandle" ∧ (parseMethodDescriptor yX0_isAt.desc).map (fun d => d.parameters.length) = some 2 := by decide +kernel
set_option maxHeartbeats 4000000 in
set_option maxRecDepth 100000 in
theorem c_X0_isAt (l : Launch) (dC : Nat → ClassId) (dI : Nat → Nat → Nat) (cI cZ : ClassId) (h : Nat) (a : Nat → Nat) (qph : AR) (qgr : AR) (qne : AR) (qap : AR) (qle : AR) (qfu : AR) (qpc : Int32) (qgd : Int32) (qri : Int32) (qnw : Int32) (qtk : Int32) (qsv : Int32) (qwa : AR) (qgi : AR) (qlo : AR) (qtu : AR) (i : Int32) (f : Int32) (hp : vp_in i 8) : Ki l yX0_isAt wsX0_isAt rmX0_isAt dC dI cI cZ [.ref h, .int i, .int f] (xW cI cZ h a qph qgr qne qap qle qfu qpc qgd qri qnw qtk qsv qwa qgi qlo qtu) (xW cI cZ h a qph qgr qne qap qle qfu qpc qgd qri qnw qtk qsv qwa qgi qlo qtu) (X0_isAt qph i f) := by
  refine k_enter_i (cc := cX0_isAt) (maxL := 3) (ret := some .boolean) (by decide) rfl (Nat.le_of_ble_eq_true rfl) ?_
  intro p e s m below meth c A ls hC hr hlocks hK hP hD hS hA hl
  generalize List.toArray _ = args at hC ⊢
  obtain ⟨hx, hb, hml, hown, hts⟩ := id hC
  have hret : ∀ (H : Heap) (locs : List Loc) (pc : Nat) (ls : Array Slot) (r : Int32), va_S A s.heap H locs → va_P (dC, dI) vwCl (xW cI cZ h a qph qgr qne qap qle qfu qpc qgd qri qnw qtk qsv qwa qgi qlo qtu) H → va_D A (xW cI cZ h a qph qgr qne qap qle qfu qpc qgd qri qnw qtk qsv qwa qgi qlo qtu) → r = (X0_isAt qph i f) → (r = 0 ∨ r = 1) → decode cX0_isAt pc = .ok (.ireturn, 1) → W p l e rmX0_isAt s m args below meth c H locs 0 0 (MQ below (va_Qi (fun r (_ : Unit) => r = (X0_isAt qph i f)) (kBeh dC dI A (xW cI cZ h a qph qgr qne qap qle qfu qpc qgd qri qnw qtk qsv qwa qgi qlo qtu)) A) args s 0 0 A) (F0 m pc ls [.int r]) := fun H locs pc ls r hS hP hD hv hz d => k_zret hx hb hr hlocks hS hP hD hv hz d
  generalize MQ below _ _ _ _ _ _ = Q at hret ⊢
  have hin : ∀ w ∈ wsX00, w ∈ wsX0_isAt := by decide +kernel
  have hw0 := hts (.fieldLink RX0 9 "ChargePark" "phaseOf" "[I") (by decide +kernel)
  have hl : lv_has ls 3 [(0, .ref h), (1, .int i), (2, .int f)] := hl
  have hP : va_P (dC, dI) vwCl (xW cI cZ h a qph qgr qne qap qle qfu qpc qgd qri qnw qtk qsv qwa qgi qlo qtu) s.heap := hP
  have hW : ∀ (H : Heap) (locs : List Loc), va_P (dC, dI) vwCl (xW cI cZ h a qph qgr qne qap qle qfu qpc qgd qri qnw qtk qsv qwa qgi qlo qtu) H → va_D A (xW cI cZ h a qph qgr qne qap qle qfu qpc qgd qri qnw qtk qsv qwa qgi qlo qtu) → va_S A s.heap H locs → W p l e rmX0_isAt s m args below meth c H locs 0 0 Q (F0 m 0 ls []) := by
    intro H locs hP hD hS
    refine lv_aload_n hx hb dX0_isAt_0 rfl (lv_at hl 0 rfl) ?_
    refine va_get (D := (dC, dI)) (ci := 0) (v := .ref (a 0)) (C := RX0) (T := TX0) (N := 16) hx hb hts hin hown hK hP 0 rfl rfl 0 (by decide) hw0 (fun _ h9 => h9) rfl dX0_isAt_1 ?_
    refine lv_iload_n hx hb dX0_isAt_4 rfl (lv_at hl 1 rfl) ?_
    refine va_iald (f := qph) hx hb hK hP 1 0 rfl rfl hp dX0_isAt_5 ?_
    refine lv_iload_n hx hb dX0_isAt_6 rfl (lv_at hl 2 rfl) ?_
    refine lv_icmp_eq (tgt := 20) hx hb dX0_isAt_7 (by decide) (fun c7 => ?_) (fun c7 => ?_)
    · refine lv_iconst (v := 1) hx hb dX0_isAt_20 (by decide) ?_
      refine lv_goto (tgt := 25) hx hb dX0_isAt_21 (by decide) ?_
      exact hret H locs 25 ls 1 hS hP hD (by rw [X0_isAt, if_pos c7]) (Or.inr rfl) dX0_isAt_25
    · refine lv_aload_n hx hb dX0_isAt_10 rfl (lv_at hl 0 rfl) ?_
      refine va_get (D := (dC, dI)) (ci := 0) (v := .ref (a 0)) (C := RX0) (T := TX0) (N := 16) hx hb hts hin hown hK hP 0 rfl rfl 0 (by decide) hw0 (fun _ h9 => h9) rfl dX0_isAt_11 ?_
      refine lv_iload_n hx hb dX0_isAt_14 rfl (lv_at hl 1 rfl) ?_
      refine va_iald (f := qph) hx hb hK hP 1 0 rfl rfl hp dX0_isAt_15 ?_
      refine lv_iconst (v := 3) hx hb dX0_isAt_16 (by decide) ?_
      refine lv_icmp_ne (tgt := 24) hx hb dX0_isAt_17 (by decide) (fun c17 => ?_) (fun c17 => ?_)
      · refine lv_iconst (v := 0) hx hb dX0_isAt_24 (by decide) ?_
        exact hret H locs 25 ls 0 hS hP hD (by rw [X0_isAt, if_neg c7, if_neg c17]) (Or.inl rfl) dX0_isAt_25
      · refine lv_iconst (v := 1) hx hb dX0_isAt_20 (by decide) ?_
        refine lv_goto (tgt := 25) hx hb dX0_isAt_21 (by decide) ?_
        exact hret H locs 25 ls 1 hS hP hD (by rw [X0_isAt, if_neg c7, if_pos c17]) (Or.inr rfl) dX0_isAt_25
  exact hW _ _ hP hD hS
def X0_give_L12 (qph : AR) (i : Int32) (x : Int32) : Nat → Nat → AR → AR
  | 0, k, vlo => vlo
  | j + 1, k, vlo => (if (X0_isAt qph i (nI k)) = 0 then X0_give_L12 qph i x  j (k + 1) vlo else X0_give_L12 qph i x  j (k + 1) (upd vlo (nI k).toNatClampNeg ((vlo (nI k).toNatClampNeg) + x)))
def X0_give (qph : AR) (qgi : AR) (qlo : AR) (i : Int32) (x : Int32) : AR × AR := ((upd qgi i.toNatClampNeg ((qgi i.toNatClampNeg) + x)), ((X0_give_L12 qph i x  3 0 qlo)))
abbrev rmX0_give : Room := { frames := 1, cells := 0, slots := 0, locals := 22 }
theorem hd_X0_give : yX0_give.cls = RX0 ∧ yX0_give.cls ≠ "java/lang/invoke/MethodHandle" ∧ yX0_give.cls ≠ "java/lang/invoke/VarHandle" ∧ (parseMethodDescriptor yX0_give.desc).map (fun d => d.parameters.length) = some 2 := by decide +kernel
set_option maxHeartbeats 4000000 in
set_option maxRecDepth 100000 in
theorem c_X0_give (l : Launch) (dC : Nat → ClassId) (dI : Nat → Nat → Nat) (cI cZ : ClassId) (h : Nat) (a : Nat → Nat) (qph : AR) (qgr : AR) (qne : AR) (qap : AR) (qle : AR) (qfu : AR) (qpc : Int32) (qgd : Int32) (qri : Int32) (qnw : Int32) (qtk : Int32) (qsv : Int32) (qwa : AR) (qgi : AR) (qlo : AR) (qtu : AR) (i : Int32) (x : Int32) (hp : vp_in i 8) : Kv l yX0_give wsX0_give rmX0_give dC dI cI cZ [.ref h, .int i, .int x] (xW cI cZ h a qph qgr qne qap qle qfu qpc qgd qri qnw qtk qsv qwa qgi qlo qtu) (xW cI cZ h a qph qgr qne qap qle qfu qpc qgd qri qnw qtk qsv qwa ((X0_give qph qgi qlo i x).1) ((X0_give qph qgi qlo i x).2) qtu) := by
  refine k_enter_v (cc := cX0_give) (maxL := 4) (ret := none) (by decide) rfl (Nat.le_of_ble_eq_true rfl) ?_
  intro p e s m below meth c A ls hC hr hlocks hK hP hD hS hA hl
  generalize List.toArray _ = args at hC ⊢
  obtain ⟨hx, hb, hml, hown, hts⟩ := id hC
  have hret : ∀ (H : Heap) (locs : List Loc) (pc : Nat) (ls : Array Slot), va_S A s.heap H locs → va_P (dC, dI) vwCl (xW cI cZ h a qph qgr qne qap qle qfu qpc qgd qri qnw qtk qsv qwa ((X0_give qph qgi qlo i x).1) ((X0_give qph qgi qlo i x).2) qtu) H → va_D A (xW cI cZ h a qph qgr qne qap qle qfu qpc qgd qri qnw qtk qsv qwa ((X0_give qph qgi qlo i x).1) ((X0_give qph qgi qlo i x).2) qtu) → decode cX0_give pc = .ok (.return_, 1) → W p l e rmX0_give s m args below meth c H locs 0 0 (MQ below (va_Qv (fun (_ : Unit) => True) (kBeh dC dI A (xW cI cZ h a qph qgr qne qap qle qfu qpc qgd qri qnw qtk qsv qwa ((X0_give qph qgi qlo i x).1) ((X0_give qph qgi qlo i x).2) qtu)) A) args s 0 0 A) (F0 m pc ls []) := fun H locs pc ls hS hP hD d => k_vret hx hb hr hlocks hS hP hD d
  generalize MQ below _ _ _ _ _ _ = Q at hret ⊢
  have hin : ∀ w ∈ wsX00, w ∈ wsX0_give := by decide +kernel
  have hw0 := hts (.fieldLink RX0 28 "ChargePark" "given" "[I") (by decide +kernel)
  have hw1 := hts (.fieldLink RX0 34 "ChargePark" "loadOf" "[I") (by decide +kernel)
  have hl : lv_has ls 4 [(0, .ref h), (1, .int i), (2, .int x)] := hl
  have hP : va_P (dC, dI) vwCl (xW cI cZ h a qph qgr qne qap qle qfu qpc qgd qri qnw qtk qsv qwa qgi qlo qtu) s.heap := hP
  have hW : ∀ (H : Heap) (locs : List Loc), va_P (dC, dI) vwCl (xW cI cZ h a qph qgr qne qap qle qfu qpc qgd qri qnw qtk qsv qwa qgi qlo qtu) H → va_D A (xW cI cZ h a qph qgr qne qap qle qfu qpc qgd qri qnw qtk qsv qwa qgi qlo qtu) → va_S A s.heap H locs → W p l e rmX0_give s m args below meth c H locs 0 0 Q (F0 m 0 ls []) := by
    intro H locs hP hD hS
    refine lv_aload_n hx hb dX0_give_0 rfl (lv_at hl 0 rfl) ?_
    refine va_get (D := (dC, dI)) (ci := 0) (v := .ref (a 13)) (C := RX0) (T := TX0) (N := 16) hx hb hts hin hown hK hP 0 rfl rfl 13 (by decide) hw0 (fun _ h9 => h9) rfl dX0_give_1 ?_
    refine lv_iload_n hx hb dX0_give_4 rfl (lv_at hl 1 rfl) ?_
    refine lv_dup2_11 hx hb dX0_give_5 rfl rfl ?_
    refine va_iald (f := qgi) hx hb hK hP 8 0 rfl rfl hp dX0_give_6 ?_
    refine lv_iload_n hx hb dX0_give_7 rfl (lv_at hl 2 rfl) ?_
    refine lv_iadd hx hb dX0_give_8 ?_
    refine va_iast (f := qgi) hx hb hK hP hD hS 8 0 rfl rfl hp dX0_give_9 (fun H locs hP hD hS => ?_)
    obtain ⟨z1, hz1⟩ : ∃ z : AR, z = (upd qgi i.toNatClampNeg ((qgi i.toNatClampNeg) + x)) := ⟨_, rfl⟩
    rw [← hz1] at hP hD
    have hP : va_P (dC, dI) vwCl (xW cI cZ h a qph qgr qne qap qle qfu qpc qgd qri qnw qtk qsv qwa z1 qlo qtu) H := hP
    have hD : va_D A (xW cI cZ h a qph qgr qne qap qle qfu qpc qgd qri qnw qtk qsv qwa z1 qlo qtu) := hD
    refine lv_iconst (v := 0) hx hb dX0_give_10 (by decide) ?_
    refine lv_istore_n (lv' := [(3, .int 0), (0, .ref h), (1, .int i), (2, .int x)]) hx hb dX0_give_11 rfl hl (by decide) rfl (fun ls hl => ?_)
    have cont12 : ∀ (z2 : AR), z2 = (X0_give_L12 qph i x  3 0 qlo) → ∀ (H : Heap) (locs : List Loc) (ls : Array Slot), va_P (dC, dI) vwCl (xW cI cZ h a qph qgr qne qap qle qfu qpc qgd qri qnw qtk qsv qwa z1 z2 qtu) H → va_D A (xW cI cZ h a qph qgr qne qap qle qfu qpc qgd qri qnw qtk qsv qwa z1 z2 qtu) → va_S A s.heap H locs → lv_has ls 4 [(0, .ref h), (1, .int i), (2, .int x)] → W p l e rmX0_give s m args below meth c H locs 0 0 Q (F0 m 42 ls []) := by
      intro z2 hz2 H locs ls hP hD hS hl
      have hP9 := hP; have hD9 := hD
      subst hz1 hz2
      have hP8 : va_P (dC, dI) vwCl (xW cI cZ h a qph qgr qne qap qle qfu qpc qgd qri qnw qtk qsv qwa ((X0_give qph qgi qlo i x).1) ((X0_give qph qgi qlo i x).2) qtu) H := by rw [X0_give]; exact hP9
      have hD8 : va_D A (xW cI cZ h a qph qgr qne qap qle qfu qpc qgd qri qnw qtk qsv qwa ((X0_give qph qgi qlo i x).1) ((X0_give qph qgi qlo i x).2) qtu) := by rw [X0_give]; exact hD9
      exact hret H locs 42 ls hS hP8 hD8 dX0_give_42
    have loop12 : ∀ (j k : Nat) (vlo : AR), k + j = 3 → X0_give_L12 qph i x  j k vlo = (X0_give_L12 qph i x  3 0 qlo) → ∀ (H : Heap) (locs : List Loc) (ls : Array Slot), va_P (dC, dI) vwCl (xW cI cZ h a qph qgr qne qap qle qfu qpc qgd qri qnw qtk qsv qwa z1 vlo qtu) H → va_D A (xW cI cZ h a qph qgr qne qap qle qfu qpc qgd qri qnw qtk qsv qwa z1 vlo qtu) → va_S A s.heap H locs → lv_has ls 4 [(0, .ref h), (1, .int i), (2, .int x), (3, .int (nI k))] → W p l e rmX0_give s m args below meth c H locs 0 0 Q (F0 m 12 ls []) := by
      intro j
      induction j with
      | zero =>
        intro k vlo hk hR  H locs ls hP hD hS hl
        refine lv_iload_n hx hb dX0_give_12 rfl (lv_at hl 3 rfl) ?_
        refine lv_iconst (v := 3) hx hb dX0_give_13 (by decide) ?_
        refine lv_icmp_ge (tgt := 42) hx hb dX0_give_14 (by decide) (fun _ => ?_) (fun c => absurd (by rw [nIl3]; exact nI_le (by omega) (by omega)) c)
        have hP9 := hP; have hD9 := hD; have hl9 := hl; have hR9 := hR
        subst hz1
        exact cont12 vlo (by rw [← hR9, X0_give_L12]) H locs ls hP9 hD9 hS (lv_sub hl9 [0, 1, 2] rfl)
      | succ j ih =>
        intro k vlo hk hR  H locs ls hP hD hS hl
        refine lv_iload_n hx hb dX0_give_12 rfl (lv_at hl 3 rfl) ?_
        refine lv_iconst (v := 3) hx hb dX0_give_13 (by decide) ?_
        refine lv_icmp_ge (tgt := 42) hx hb dX0_give_14 (by decide) (fun c => absurd c (by rw [nIl3]; exact nI_ge (by omega) (by omega))) (fun _ => ?_)
        refine lv_aload_n hx hb dX0_give_17 rfl (lv_at hl 0 rfl) ?_
        refine lv_iload_n hx hb dX0_give_18 rfl (lv_at hl 1 rfl) ?_
        refine lv_iload_n hx hb dX0_give_19 rfl (lv_at hl 3 rfl) ?_
        refine k_calli (rest := []) (q0 := 0) hC (c_X0_isAt l dC dI cI cZ h a qph qgr qne qap qle qfu qpc qgd qri qnw qtk qsv qwa z1 vlo qtu  i (nI k) hp) (cwV 2 hts gX0_give_X0_isAt rfl rfl rfl hd_X0_isAt ⟨Nat.le_of_ble_eq_true rfl, Nat.le_of_ble_eq_true rfl⟩) hK hP hD hS hA rfl rfl rfl hl.1 (Nat.le_of_ble_eq_true rfl) dX0_give_20 rfl ⟨Nat.zero_le _, Nat.zero_le _⟩ (fun H locs hP hD hS => ?_)
        refine lv_if_eq (tgt := 36) hx hb dX0_give_23 (by decide) (fun c23 => ?_) (fun c23 => ?_)
        · refine lv_iinc (v := (nI (k + 1))) (lv' := [(3, .int (nI (k + 1))), (0, .ref h), (1, .int i), (2, .int x)]) hx hb dX0_give_36 hl (k := 3) rfl (nI_1 k) (by decide) rfl (fun ls hl => ?_)
          refine lv_goto (tgt := 12) hx hb dX0_give_39 (by decide) ?_
          have hP9 := hP; have hD9 := hD; have hl9 := hl; have hR9 := hR; have ih9 := ih
          subst hz1
          exact ih9 (k + 1) vlo (by omega) (by rw [← hR9, X0_give_L12, if_pos c23])  H locs ls hP9 hD9 hS (lv_sub hl9 [1, 2, 3, 0] rfl)
        · refine lv_aload_n hx hb dX0_give_26 rfl (lv_at hl 0 rfl) ?_
          refine va_get (D := (dC, dI)) (ci := 0) (v := .ref (a 14)) (C := RX0) (T := TX0) (N := 16) hx hb hts hin hown hK hP 0 rfl rfl 14 (by decide) hw1 (fun _ h9 => h9) rfl dX0_give_27 ?_
          refine lv_iload_n hx hb dX0_give_30 rfl (lv_at hl 3 rfl) ?_
          refine lv_dup2_11 hx hb dX0_give_31 rfl rfl ?_
          refine va_iald (f := vlo) hx hb hK hP 9 0 rfl rfl (vp_in_nI (by omega) (by decide)) dX0_give_32 ?_
          refine lv_iload_n hx hb dX0_give_33 rfl (lv_at hl 2 rfl) ?_
          refine lv_iadd hx hb dX0_give_34 ?_
          refine va_iast (f := vlo) hx hb hK hP hD hS 9 0 rfl rfl (vp_in_nI (by omega) (by decide)) dX0_give_35 (fun H locs hP hD hS => ?_)
          obtain ⟨z3, hz3⟩ : ∃ z : AR, z = (upd vlo (nI k).toNatClampNeg ((vlo (nI k).toNatClampNeg) + x)) := ⟨_, rfl⟩
          rw [← hz3] at hP hD
          have hP : va_P (dC, dI) vwCl (xW cI cZ h a qph qgr qne qap qle qfu qpc qgd qri qnw qtk qsv qwa z1 z3 qtu) H := hP
          have hD : va_D A (xW cI cZ h a qph qgr qne qap qle qfu qpc qgd qri qnw qtk qsv qwa z1 z3 qtu) := hD
          refine lv_iinc (v := (nI (k + 1))) (lv' := [(3, .int (nI (k + 1))), (0, .ref h), (1, .int i), (2, .int x)]) hx hb dX0_give_36 hl (k := 3) rfl (nI_1 k) (by decide) rfl (fun ls hl => ?_)
          refine lv_goto (tgt := 12) hx hb dX0_give_39 (by decide) ?_
          have hP9 := hP; have hD9 := hD; have hl9 := hl; have hR9 := hR; have ih9 := ih
          subst hz1 hz3
          exact ih9 (k + 1) (upd vlo (nI k).toNatClampNeg ((vlo (nI k).toNatClampNeg) + x)) (by omega) (by rw [← hR9, X0_give_L12, if_neg c23])  H locs ls hP9 hD9 hS (lv_sub hl9 [1, 2, 3, 0] rfl)
    exact loop12 3 0 qlo (by omega) rfl  H locs ls hP hD hS (lv_sub hl [1, 2, 3, 0] rfl)
  exact hW _ _ hP hD hS
def X0_roomFor_L5 (qph : AR) (qfu : AR) (qlo : AR) (i : Int32) : Nat → Nat → Int32 → Int32
  | 0, k, ro => ro
  | j + 1, k, ro => (if (X0_isAt qph i (nI k)) = 0 then X0_roomFor_L5 qph qfu qlo i  j (k + 1) ro else X0_roomFor_L5 qph qfu qlo i  j (k + 1) (if ((qfu (nI k).toNatClampNeg) - (qlo (nI k).toNatClampNeg)) < ro then ((qfu (nI k).toNatClampNeg) - (qlo (nI k).toNatClampNeg)) else ro))
def X0_roomFor (qph : AR) (qfu : AR) (qlo : AR) (i : Int32) : Int32 := ((X0_roomFor_L5 qph qfu qlo i  3 0 100))
abbrev rmX0_roomFor : Room := { frames := 1, cells := 0, slots := 0, locals := 22 }
theorem hd_X0_roomFor : yX0_roomFor.cls = RX0 ∧ yX0_roomFor.cls ≠ "java/lang/invoke/MethodHandle" ∧ yX0_roomFor.cls ≠ "java/lang/invoke/VarHandle" ∧ (parseMethodDescriptor yX0_roomFor.desc).map (fun d => d.parameters.length) = some 1 := by decide +kernel
set_option maxHeartbeats 4000000 in
set_option maxRecDepth 100000 in
theorem c_X0_roomFor (l : Launch) (dC : Nat → ClassId) (dI : Nat → Nat → Nat) (cI cZ : ClassId) (h : Nat) (a : Nat → Nat) (qph : AR) (qgr : AR) (qne : AR) (qap : AR) (qle : AR) (qfu : AR) (qpc : Int32) (qgd : Int32) (qri : Int32) (qnw : Int32) (qtk : Int32) (qsv : Int32) (qwa : AR) (qgi : AR) (qlo : AR) (qtu : AR) (i : Int32) (hp : vp_in i 8) : Ki l yX0_roomFor wsX0_roomFor rmX0_roomFor dC dI cI cZ [.ref h, .int i] (xW cI cZ h a qph qgr qne qap qle qfu qpc qgd qri qnw qtk qsv qwa qgi qlo qtu) (xW cI cZ h a qph qgr qne qap qle qfu qpc qgd qri qnw qtk qsv qwa qgi qlo qtu) (X0_roomFor qph qfu qlo i) := by
  refine k_enter_i (cc := cX0_roomFor) (maxL := 4) (ret := some .int) (by decide) rfl (Nat.le_of_ble_eq_true rfl) ?_
  intro p e s m below meth c A ls hC hr hlocks hK hP hD hS hA hl
  generalize List.toArray _ = args at hC ⊢
  obtain ⟨hx, hb, hml, hown, hts⟩ := id hC
  have hret : ∀ (H : Heap) (locs : List Loc) (pc : Nat) (ls : Array Slot) (r : Int32), va_S A s.heap H locs → va_P (dC, dI) vwCl (xW cI cZ h a qph qgr qne qap qle qfu qpc qgd qri qnw qtk qsv qwa qgi qlo qtu) H → va_D A (xW cI cZ h a qph qgr qne qap qle qfu qpc qgd qri qnw qtk qsv qwa qgi qlo qtu) → r = (X0_roomFor qph qfu qlo i) → decode cX0_roomFor pc = .ok (.ireturn, 1) → W p l e rmX0_roomFor s m args below meth c H locs 0 0 (MQ below (va_Qi (fun r (_ : Unit) => r = (X0_roomFor qph qfu qlo i)) (kBeh dC dI A (xW cI cZ h a qph qgr qne qap qle qfu qpc qgd qri qnw qtk qsv qwa qgi qlo qtu)) A) args s 0 0 A) (F0 m pc ls [.int r]) := fun H locs pc ls r hS hP hD hv d => k_iret hx hb hr hlocks hS hP hD hv d
  generalize MQ below _ _ _ _ _ _ = Q at hret ⊢
  have hin : ∀ w ∈ wsX00, w ∈ wsX0_roomFor := by decide +kernel
  have hw0 := hts (.fieldLink RX0 37 "ChargePark" "fuseOf" "[I") (by decide +kernel)
  have hw1 := hts (.fieldLink RX0 34 "ChargePark" "loadOf" "[I") (by decide +kernel)
  have hw2 := hts (.methodLink RX0 132 Lib.Math.min.name) (by decide +kernel)
  have hw3 := hts (.static Lib.Math.min.name) (by decide +kernel)
  have hw4 := hts (.initialized "java/lang/Math") (by decide +kernel)
  have hw5 := hts (.code Lib.Math.min.name Lib.Math.min.code 2 (some .int)) (by decide +kernel)
  have hl : lv_has ls 4 [(0, .ref h), (1, .int i)] := hl
  have hP : va_P (dC, dI) vwCl (xW cI cZ h a qph qgr qne qap qle qfu qpc qgd qri qnw qtk qsv qwa qgi qlo qtu) s.heap := hP
  have hW : ∀ (H : Heap) (locs : List Loc), va_P (dC, dI) vwCl (xW cI cZ h a qph qgr qne qap qle qfu qpc qgd qri qnw qtk qsv qwa qgi qlo qtu) H → va_D A (xW cI cZ h a qph qgr qne qap qle qfu qpc qgd qri qnw qtk qsv qwa qgi qlo qtu) → va_S A s.heap H locs → W p l e rmX0_roomFor s m args below meth c H locs 0 0 Q (F0 m 0 ls []) := by
    intro H locs hP hD hS
    refine lv_bipush (v := 100) hx hb dX0_roomFor_0 (by decide) ?_
    refine lv_istore_n (lv' := [(2, .int 100), (0, .ref h), (1, .int i)]) hx hb dX0_roomFor_2 rfl hl (by decide) rfl (fun ls hl => ?_)
    refine lv_iconst (v := 0) hx hb dX0_roomFor_3 (by decide) ?_
    refine lv_istore_n (lv' := [(3, .int 0), (2, .int 100), (0, .ref h), (1, .int i)]) hx hb dX0_roomFor_4 rfl hl (by decide) rfl (fun ls hl => ?_)
    have cont5 : ∀ (z1 : Int32), z1 = (X0_roomFor_L5 qph qfu qlo i  3 0 100) → ∀ (H : Heap) (locs : List Loc) (ls : Array Slot), va_P (dC, dI) vwCl (xW cI cZ h a qph qgr qne qap qle qfu qpc qgd qri qnw qtk qsv qwa qgi qlo qtu) H → va_D A (xW cI cZ h a qph qgr qne qap qle qfu qpc qgd qri qnw qtk qsv qwa qgi qlo qtu) → va_S A s.heap H locs → lv_has ls 4 [(0, .ref h), (1, .int i), (2, .int z1)] → W p l e rmX0_roomFor s m args below meth c H locs 0 0 Q (F0 m 43 ls []) := by
      intro z1 hz1 H locs ls hP hD hS hl
      refine lv_iload_n hx hb dX0_roomFor_43 rfl (lv_at hl 2 rfl) ?_
      have hP9 := hP; have hD9 := hD
      subst hz1
      exact hret H locs 44 ls ((X0_roomFor_L5 qph qfu qlo i  3 0 100)) hS hP9 hD9 (by rw [X0_roomFor]) dX0_roomFor_44
    have loop5 : ∀ (j k : Nat) (ro : Int32), k + j = 3 → X0_roomFor_L5 qph qfu qlo i  j k ro = (X0_roomFor_L5 qph qfu qlo i  3 0 100) → ∀ (H : Heap) (locs : List Loc) (ls : Array Slot), va_P (dC, dI) vwCl (xW cI cZ h a qph qgr qne qap qle qfu qpc qgd qri qnw qtk qsv qwa qgi qlo qtu) H → va_D A (xW cI cZ h a qph qgr qne qap qle qfu qpc qgd qri qnw qtk qsv qwa qgi qlo qtu) → va_S A s.heap H locs → lv_has ls 4 [(0, .ref h), (1, .int i), (2, .int ro), (3, .int (nI k))] → W p l e rmX0_roomFor s m args below meth c H locs 0 0 Q (F0 m 5 ls []) := by
      intro j
      induction j with
      | zero =>
        intro k ro hk hR  H locs ls hP hD hS hl
        refine lv_iload_n hx hb dX0_roomFor_5 rfl (lv_at hl 3 rfl) ?_
        refine lv_iconst (v := 3) hx hb dX0_roomFor_6 (by decide) ?_
        refine lv_icmp_ge (tgt := 43) hx hb dX0_roomFor_7 (by decide) (fun _ => ?_) (fun c => absurd (by rw [nIl3]; exact nI_le (by omega) (by omega)) c)
        exact cont5 ro (by rw [← hR, X0_roomFor_L5]) H locs ls hP hD hS (lv_sub hl [0, 1, 2] rfl)
      | succ j ih =>
        intro k ro hk hR  H locs ls hP hD hS hl
        refine lv_iload_n hx hb dX0_roomFor_5 rfl (lv_at hl 3 rfl) ?_
        refine lv_iconst (v := 3) hx hb dX0_roomFor_6 (by decide) ?_
        refine lv_icmp_ge (tgt := 43) hx hb dX0_roomFor_7 (by decide) (fun c => absurd c (by rw [nIl3]; exact nI_ge (by omega) (by omega))) (fun _ => ?_)
        refine lv_aload_n hx hb dX0_roomFor_10 rfl (lv_at hl 0 rfl) ?_
        refine lv_iload_n hx hb dX0_roomFor_11 rfl (lv_at hl 1 rfl) ?_
        refine lv_iload_n hx hb dX0_roomFor_12 rfl (lv_at hl 3 rfl) ?_
        refine k_calli (rest := []) (q0 := 0) hC (c_X0_isAt l dC dI cI cZ h a qph qgr qne qap qle qfu qpc qgd qri qnw qtk qsv qwa qgi qlo qtu  i (nI k) hp) (cwV 2 hts gX0_roomFor_X0_isAt rfl rfl rfl hd_X0_isAt ⟨Nat.le_of_ble_eq_true rfl, Nat.le_of_ble_eq_true rfl⟩) hK hP hD hS hA rfl rfl rfl hl.1 (Nat.le_of_ble_eq_true rfl) dX0_roomFor_13 rfl ⟨Nat.zero_le _, Nat.zero_le _⟩ (fun H locs hP hD hS => ?_)
        refine lv_if_eq (tgt := 37) hx hb dX0_roomFor_16 (by decide) (fun c16 => ?_) (fun c16 => ?_)
        · refine lv_iinc (v := (nI (k + 1))) (lv' := [(3, .int (nI (k + 1))), (0, .ref h), (1, .int i), (2, .int ro)]) hx hb dX0_roomFor_37 hl (k := 3) rfl (nI_1 k) (by decide) rfl (fun ls hl => ?_)
          refine lv_goto (tgt := 5) hx hb dX0_roomFor_40 (by decide) ?_
          exact ih (k + 1) ro (by omega) (by rw [← hR, X0_roomFor_L5, if_pos c16])  H locs ls hP hD hS (lv_sub hl [1, 2, 3, 0] rfl)
        · refine lv_iload_n hx hb dX0_roomFor_19 rfl (lv_at hl 2 rfl) ?_
          refine lv_aload_n hx hb dX0_roomFor_20 rfl (lv_at hl 0 rfl) ?_
          refine va_get (D := (dC, dI)) (ci := 0) (v := .ref (a 5)) (C := RX0) (T := TX0) (N := 16) hx hb hts hin hown hK hP 0 rfl rfl 5 (by decide) hw0 (fun _ h9 => h9) rfl dX0_roomFor_21 ?_
          refine lv_iload_n hx hb dX0_roomFor_24 rfl (lv_at hl 3 rfl) ?_
          refine va_iald (f := qfu) hx hb hK hP 6 0 rfl rfl (vp_in_nI (by omega) (by decide)) dX0_roomFor_25 ?_
          refine lv_aload_n hx hb dX0_roomFor_26 rfl (lv_at hl 0 rfl) ?_
          refine va_get (D := (dC, dI)) (ci := 0) (v := .ref (a 14)) (C := RX0) (T := TX0) (N := 16) hx hb hts hin hown hK hP 0 rfl rfl 14 (by decide) hw1 (fun _ h9 => h9) rfl dX0_roomFor_27 ?_
          refine lv_iload_n hx hb dX0_roomFor_30 rfl (lv_at hl 3 rfl) ?_
          refine va_iald (f := qlo) hx hb hK hP 9 0 rfl rfl (vp_in_nI (by omega) (by decide)) dX0_roomFor_31 ?_
          refine lv_isub hx hb dX0_roomFor_32 ?_
          refine va_mmin hx hb (hml.trans hl.1.symm) hown hw2 hw3 hw4 hw5 (Nat.le_of_ble_eq_true rfl) (Nat.le_of_ble_eq_true rfl) (Nat.zero_le _) (Nat.zero_le _) dX0_roomFor_33 ?_
          refine lv_istore_n (lv' := [(2, .int (if ((qfu (nI k).toNatClampNeg) - (qlo (nI k).toNatClampNeg)) < ro then ((qfu (nI k).toNatClampNeg) - (qlo (nI k).toNatClampNeg)) else ro)), (0, .ref h), (1, .int i), (3, .int (nI k))]) hx hb dX0_roomFor_36 rfl hl (by decide) rfl (fun ls hl => ?_)
          refine lv_iinc (v := (nI (k + 1))) (lv' := [(3, .int (nI (k + 1))), (2, .int (if ((qfu (nI k).toNatClampNeg) - (qlo (nI k).toNatClampNeg)) < ro then ((qfu (nI k).toNatClampNeg) - (qlo (nI k).toNatClampNeg)) else ro)), (0, .ref h), (1, .int i)]) hx hb dX0_roomFor_37 hl (k := 3) rfl (nI_1 k) (by decide) rfl (fun ls hl => ?_)
          refine lv_goto (tgt := 5) hx hb dX0_roomFor_40 (by decide) ?_
          exact ih (k + 1) (if ((qfu (nI k).toNatClampNeg) - (qlo (nI k).toNatClampNeg)) < ro then ((qfu (nI k).toNatClampNeg) - (qlo (nI k).toNatClampNeg)) else ro) (by omega) (by rw [← hR, X0_roomFor_L5, if_neg c16])  H locs ls hP hD hS (lv_sub hl [2, 3, 1, 0] rfl)
    exact loop5 3 0 100 (by omega) rfl  H locs ls hP hD hS (lv_sub hl [2, 3, 1, 0] rfl)
  exact hW _ _ hP hD hS
