def X0_differenceOfLoads (qlo : AR)  : Int32 := ((if (qlo (0 : Int32).toNatClampNeg) < (if (qlo (1 : Int32).toNatClampNeg) < (qlo (2 : Int32).toNatClampNeg) then (qlo (2 : Int32).toNatClampNeg) else (qlo (1 : Int32).toNatClampNeg)) then (if (qlo (1 : Int32).toNatClampNeg) < (qlo (2 : Int32).toNatClampNeg) then (qlo (2 : Int32).toNatClampNeg) else (qlo (1 : Int32).toNatClampNeg)) else (qlo (0 : Int32).toNatClampNeg)) - (if (if (qlo (2 : Int32).toNatClampNeg) < (qlo (1 : Int32).toNatClampNeg) then (qlo (2 : Int32).toNatClampNeg) else (qlo (1 : Int32).toNatClampNeg)) < (qlo (0 : Int32).toNatClampNeg) then (if (qlo (2 : Int32).toNatClampNeg) < (qlo (1 : Int32).toNatClampNeg) then (qlo (2 : Int32).toNatClampNeg) else (qlo (1 : Int32).toNatClampNeg)) else (qlo (0 : Int32).toNatClampNeg)))
abbrev rmX0_differenceOfLoads : Room := { frames := 1, cells := 0, slots := 0, locals := 14 }
theorem hd_X0_differenceOfLoads : yX0_differenceOfLoads.cls = RX0 ∧ yX0_differenceOfLoads.cls ≠ "java/lang/invoke/MethodHandle" ∧ yX0_differenceOfLoads.cls ≠ "java/lang/invoke/VarHandle" ∧ (parseMethodDescriptor yX0_differenceOfLoads.desc).map (fun d => d.parameters.length) = some 0 := by decide +kernel
set_option maxHeartbeats 4000000 in
set_option maxRecDepth 100000 in
theorem c_X0_differenceOfLoads (l : Launch) (dC : Nat → ClassId) (dI : Nat → Nat → Nat) (cI cZ : ClassId) (h : Nat) (a : Nat → Nat) (qph : AR) (qgr : AR) (qne : AR) (qap : AR) (qle : AR) (qfu : AR) (qpc : Int32) (qgd : Int32) (qri : Int32) (qnw : Int32) (qtk : Int32) (qsv : Int32) (qwa : AR) (qgi : AR) (qlo : AR) (qtu : AR) : Ki l yX0_differenceOfLoads wsX0_differenceOfLoads rmX0_differenceOfLoads dC dI cI cZ [.ref h] (xW cI cZ h a qph qgr qne qap qle qfu qpc qgd qri qnw qtk qsv qwa qgi qlo qtu) (xW cI cZ h a qph qgr qne qap qle qfu qpc qgd qri qnw qtk qsv qwa qgi qlo qtu) (X0_differenceOfLoads qlo) := by
  refine k_enter_i (cc := cX0_differenceOfLoads) (maxL := 3) (ret := some .int) (by decide) rfl (Nat.le_of_ble_eq_true rfl) ?_
  intro p e s m below meth c A ls hC hr hlocks hK hP hD hS hA hl
  generalize List.toArray _ = args at hC ⊢
  obtain ⟨hx, hb, hml, hown, hts⟩ := id hC
  have hret : ∀ (H : Heap) (locs : List Loc) (pc : Nat) (ls : Array Slot) (r : Int32), va_S A s.heap H locs → va_P (dC, dI) vwCl (xW cI cZ h a qph qgr qne qap qle qfu qpc qgd qri qnw qtk qsv qwa qgi qlo qtu) H → va_D A (xW cI cZ h a qph qgr qne qap qle qfu qpc qgd qri qnw qtk qsv qwa qgi qlo qtu) → r = (X0_differenceOfLoads qlo) → decode cX0_differenceOfLoads pc = .ok (.ireturn, 1) → W p l e rmX0_differenceOfLoads s m args below meth c H locs 0 0 (MQ below (va_Qi (fun r (_ : Unit) => r = (X0_differenceOfLoads qlo)) (kBeh dC dI A (xW cI cZ h a qph qgr qne qap qle qfu qpc qgd qri qnw qtk qsv qwa qgi qlo qtu)) A) args s 0 0 A) (F0 m pc ls [.int r]) := fun H locs pc ls r hS hP hD hv d => k_iret hx hb hr hlocks hS hP hD hv d
  generalize MQ below _ _ _ _ _ _ = Q at hret ⊢
  have hin : ∀ w ∈ wsX00, w ∈ wsX0_differenceOfLoads := by decide +kernel
  have hw0 := hts (.fieldLink RX0 34 "ChargePark" "loadOf" "[I") (by decide +kernel)
  have hw1 := hts (.methodLink RX0 87 Lib.Math.max.name) (by decide +kernel)
  have hw2 := hts (.static Lib.Math.max.name) (by decide +kernel)
  have hw3 := hts (.initialized "java/lang/Math") (by decide +kernel)
  have hw4 := hts (.code Lib.Math.max.name Lib.Math.max.code 2 (some .int)) (by decide +kernel)
  have hw5 := hts (.methodLink RX0 132 Lib.Math.min.name) (by decide +kernel)
  have hw6 := hts (.static Lib.Math.min.name) (by decide +kernel)
  have hw7 := hts (.code Lib.Math.min.name Lib.Math.min.code 2 (some .int)) (by decide +kernel)
  have hl : lv_has ls 3 [(0, .ref h)] := hl
  have hP : va_P (dC, dI) vwCl (xW cI cZ h a qph qgr qne qap qle qfu qpc qgd qri qnw qtk qsv qwa qgi qlo qtu) s.heap := hP
  have hW : ∀ (H : Heap) (locs : List Loc), va_P (dC, dI) vwCl (xW cI cZ h a qph qgr qne qap qle qfu qpc qgd qri qnw qtk qsv qwa qgi qlo qtu) H → va_D A (xW cI cZ h a qph qgr qne qap qle qfu qpc qgd qri qnw qtk qsv qwa qgi qlo qtu) → va_S A s.heap H locs → W p l e rmX0_differenceOfLoads s m args below meth c H locs 0 0 Q (F0 m 0 ls []) := by
    intro H locs hP hD hS
    refine lv_aload_n hx hb dX0_differenceOfLoads_0 rfl (lv_at hl 0 rfl) ?_
    refine va_get (D := (dC, dI)) (ci := 0) (v := .ref (a 14)) (C := RX0) (T := TX0) (N := 16) hx hb hts hin hown hK hP 0 rfl rfl 14 (by decide) hw0 (fun _ h9 => h9) rfl dX0_differenceOfLoads_1 ?_
    refine lv_iconst (v := 0) hx hb dX0_differenceOfLoads_4 (by decide) ?_
    refine va_iald (f := qlo) hx hb hK hP 9 0 rfl rfl vpc0_3 dX0_differenceOfLoads_5 ?_
    refine lv_aload_n hx hb dX0_differenceOfLoads_6 rfl (lv_at hl 0 rfl) ?_
    refine va_get (D := (dC, dI)) (ci := 0) (v := .ref (a 14)) (C := RX0) (T := TX0) (N := 16) hx hb hts hin hown hK hP 0 rfl rfl 14 (by decide) hw0 (fun _ h9 => h9) rfl dX0_differenceOfLoads_7 ?_
    refine lv_iconst (v := 1) hx hb dX0_differenceOfLoads_10 (by decide) ?_
    refine va_iald (f := qlo) hx hb hK hP 9 0 rfl rfl vpc1_3 dX0_differenceOfLoads_11 ?_
    refine lv_aload_n hx hb dX0_differenceOfLoads_12 rfl (lv_at hl 0 rfl) ?_
    refine va_get (D := (dC, dI)) (ci := 0) (v := .ref (a 14)) (C := RX0) (T := TX0) (N := 16) hx hb hts hin hown hK hP 0 rfl rfl 14 (by decide) hw0 (fun _ h9 => h9) rfl dX0_differenceOfLoads_13 ?_
    refine lv_iconst (v := 2) hx hb dX0_differenceOfLoads_16 (by decide) ?_
    refine va_iald (f := qlo) hx hb hK hP 9 0 rfl rfl vpc2_3 dX0_differenceOfLoads_17 ?_
    refine va_mmax hx hb (hml.trans hl.1.symm) hown hw1 hw2 hw3 hw4 (Nat.le_of_ble_eq_true rfl) (Nat.le_of_ble_eq_true rfl) (Nat.zero_le _) (Nat.zero_le _) dX0_differenceOfLoads_18 ?_
    refine va_mmax hx hb (hml.trans hl.1.symm) hown hw1 hw2 hw3 hw4 (Nat.le_of_ble_eq_true rfl) (Nat.le_of_ble_eq_true rfl) (Nat.zero_le _) (Nat.zero_le _) dX0_differenceOfLoads_21 ?_
    refine lv_istore_n (lv' := [(1, .int (if (qlo (0 : Int32).toNatClampNeg) < (if (qlo (1 : Int32).toNatClampNeg) < (qlo (2 : Int32).toNatClampNeg) then (qlo (2 : Int32).toNatClampNeg) else (qlo (1 : Int32).toNatClampNeg)) then (if (qlo (1 : Int32).toNatClampNeg) < (qlo (2 : Int32).toNatClampNeg) then (qlo (2 : Int32).toNatClampNeg) else (qlo (1 : Int32).toNatClampNeg)) else (qlo (0 : Int32).toNatClampNeg))), (0, .ref h)]) hx hb dX0_differenceOfLoads_24 rfl hl (by decide) rfl (fun ls hl => ?_)
    refine lv_aload_n hx hb dX0_differenceOfLoads_25 rfl (lv_at hl 1 rfl) ?_
    refine va_get (D := (dC, dI)) (ci := 0) (v := .ref (a 14)) (C := RX0) (T := TX0) (N := 16) hx hb hts hin hown hK hP 0 rfl rfl 14 (by decide) hw0 (fun _ h9 => h9) rfl dX0_differenceOfLoads_26 ?_
    refine lv_iconst (v := 0) hx hb dX0_differenceOfLoads_29 (by decide) ?_
    refine va_iald (f := qlo) hx hb hK hP 9 0 rfl rfl vpc0_3 dX0_differenceOfLoads_30 ?_
    refine lv_aload_n hx hb dX0_differenceOfLoads_31 rfl (lv_at hl 1 rfl) ?_
    refine va_get (D := (dC, dI)) (ci := 0) (v := .ref (a 14)) (C := RX0) (T := TX0) (N := 16) hx hb hts hin hown hK hP 0 rfl rfl 14 (by decide) hw0 (fun _ h9 => h9) rfl dX0_differenceOfLoads_32 ?_
    refine lv_iconst (v := 1) hx hb dX0_differenceOfLoads_35 (by decide) ?_
    refine va_iald (f := qlo) hx hb hK hP 9 0 rfl rfl vpc1_3 dX0_differenceOfLoads_36 ?_
    refine lv_aload_n hx hb dX0_differenceOfLoads_37 rfl (lv_at hl 1 rfl) ?_
    refine va_get (D := (dC, dI)) (ci := 0) (v := .ref (a 14)) (C := RX0) (T := TX0) (N := 16) hx hb hts hin hown hK hP 0 rfl rfl 14 (by decide) hw0 (fun _ h9 => h9) rfl dX0_differenceOfLoads_38 ?_
    refine lv_iconst (v := 2) hx hb dX0_differenceOfLoads_41 (by decide) ?_
    refine va_iald (f := qlo) hx hb hK hP 9 0 rfl rfl vpc2_3 dX0_differenceOfLoads_42 ?_
    refine va_mmin hx hb (hml.trans hl.1.symm) hown hw5 hw6 hw3 hw7 (Nat.le_of_ble_eq_true rfl) (Nat.le_of_ble_eq_true rfl) (Nat.zero_le _) (Nat.zero_le _) dX0_differenceOfLoads_43 ?_
    refine va_mmin hx hb (hml.trans hl.1.symm) hown hw5 hw6 hw3 hw7 (Nat.le_of_ble_eq_true rfl) (Nat.le_of_ble_eq_true rfl) (Nat.zero_le _) (Nat.zero_le _) dX0_differenceOfLoads_46 ?_
    refine lv_istore_n (lv' := [(2, .int (if (if (qlo (2 : Int32).toNatClampNeg) < (qlo (1 : Int32).toNatClampNeg) then (qlo (2 : Int32).toNatClampNeg) else (qlo (1 : Int32).toNatClampNeg)) < (qlo (0 : Int32).toNatClampNeg) then (if (qlo (2 : Int32).toNatClampNeg) < (qlo (1 : Int32).toNatClampNeg) then (qlo (2 : Int32).toNatClampNeg) else (qlo (1 : Int32).toNatClampNeg)) else (qlo (0 : Int32).toNatClampNeg))), (1, .int (if (qlo (0 : Int32).toNatClampNeg) < (if (qlo (1 : Int32).toNatClampNeg) < (qlo (2 : Int32).toNatClampNeg) then (qlo (2 : Int32).toNatClampNeg) else (qlo (1 : Int32).toNatClampNeg)) then (if (qlo (1 : Int32).toNatClampNeg) < (qlo (2 : Int32).toNatClampNeg) then (qlo (2 : Int32).toNatClampNeg) else (qlo (1 : Int32).toNatClampNeg)) else (qlo (0 : Int32).toNatClampNeg))), (0, .ref h)]) hx hb dX0_differenceOfLoads_49 rfl hl (by decide) rfl (fun ls hl => ?_)
    refine lv_iload_n hx hb dX0_differenceOfLoads_50 rfl (lv_at hl 1 rfl) ?_
    refine lv_iload_n hx hb dX0_differenceOfLoads_51 rfl (lv_at hl 0 rfl) ?_
    refine lv_isub hx hb dX0_differenceOfLoads_52 ?_
    exact hret H locs 53 ls ((if (qlo (0 : Int32).toNatClampNeg) < (if (qlo (1 : Int32).toNatClampNeg) < (qlo (2 : Int32).toNatClampNeg) then (qlo (2 : Int32).toNatClampNeg) else (qlo (1 : Int32).toNatClampNeg)) then (if (qlo (1 : Int32).toNatClampNeg) < (qlo (2 : Int32).toNatClampNeg) then (qlo (2 : Int32).toNatClampNeg) else (qlo (1 : Int32).toNatClampNeg)) else (qlo (0 : Int32).toNatClampNeg)) - (if (if (qlo (2 : Int32).toNatClampNeg) < (qlo (1 : Int32).toNatClampNeg) then (qlo (2 : Int32).toNatClampNeg) else (qlo (1 : Int32).toNatClampNeg)) < (qlo (0 : Int32).toNatClampNeg) then (if (qlo (2 : Int32).toNatClampNeg) < (qlo (1 : Int32).toNatClampNeg) then (qlo (2 : Int32).toNatClampNeg) else (qlo (1 : Int32).toNatClampNeg)) else (qlo (0 : Int32).toNatClampNeg))) hS hP hD (by rw [X0_differenceOfLoads]) dX0_differenceOfLoads_53
  exact hW _ _ hP hD hS
def X0_phaseOfGreatestLoad_L4 (qlo : AR)  : Nat → Nat → Int32 → Int32
  | 0, k, g => g
  | j + 1, k, g => (if (qlo (nI k).toNatClampNeg) ≤ (qlo g.toNatClampNeg) then X0_phaseOfGreatestLoad_L4 qlo  j (k + 1) g else X0_phaseOfGreatestLoad_L4 qlo  j (k + 1) (nI k))
def X0_phaseOfGreatestLoad (qlo : AR)  : Int32 := ((X0_phaseOfGreatestLoad_L4 qlo  2 1 0))
abbrev rmX0_phaseOfGreatestLoad : Room := { frames := 0, cells := 0, slots := 0, locals := 0 }
theorem hd_X0_phaseOfGreatestLoad : yX0_phaseOfGreatestLoad.cls = RX0 ∧ yX0_phaseOfGreatestLoad.cls ≠ "java/lang/invoke/MethodHandle" ∧ yX0_phaseOfGreatestLoad.cls ≠ "java/lang/invoke/VarHandle" ∧ (parseMethodDescriptor yX0_phaseOfGreatestLoad.desc).map (fun d => d.parameters.length) = some 0 := by decide +kernel
set_option maxHeartbeats 4000000 in
set_option maxRecDepth 100000 in
theorem c_X0_phaseOfGreatestLoad (l : Launch) (dC : Nat → ClassId) (dI : Nat → Nat → Nat) (cI cZ : ClassId) (h : Nat) (a : Nat → Nat) (qph : AR) (qgr : AR) (qne : AR) (qap : AR) (qle : AR) (qfu : AR) (qpc : Int32) (qgd : Int32) (qri : Int32) (qnw : Int32) (qtk : Int32) (qsv : Int32) (qwa : AR) (qgi : AR) (qlo : AR) (qtu : AR) : Ki l yX0_phaseOfGreatestLoad wsX0_phaseOfGreatestLoad rmX0_phaseOfGreatestLoad dC dI cI cZ [.ref h] (xW cI cZ h a qph qgr qne qap qle qfu qpc qgd qri qnw qtk qsv qwa qgi qlo qtu) (xW cI cZ h a qph qgr qne qap qle qfu qpc qgd qri qnw qtk qsv qwa qgi qlo qtu) (X0_phaseOfGreatestLoad qlo) := by
  refine k_enter_i (cc := cX0_phaseOfGreatestLoad) (maxL := 3) (ret := some .int) (by decide) rfl (Nat.le_of_ble_eq_true rfl) ?_
  intro p e s m below meth c A ls hC hr hlocks hK hP hD hS hA hl
  generalize List.toArray _ = args at hC ⊢
  obtain ⟨hx, hb, hml, hown, hts⟩ := id hC
  have hret : ∀ (H : Heap) (locs : List Loc) (pc : Nat) (ls : Array Slot) (r : Int32), va_S A s.heap H locs → va_P (dC, dI) vwCl (xW cI cZ h a qph qgr qne qap qle qfu qpc qgd qri qnw qtk qsv qwa qgi qlo qtu) H → va_D A (xW cI cZ h a qph qgr qne qap qle qfu qpc qgd qri qnw qtk qsv qwa qgi qlo qtu) → r = (X0_phaseOfGreatestLoad qlo) → decode cX0_phaseOfGreatestLoad pc = .ok (.ireturn, 1) → W p l e rmX0_phaseOfGreatestLoad s m args below meth c H locs 0 0 (MQ below (va_Qi (fun r (_ : Unit) => r = (X0_phaseOfGreatestLoad qlo)) (kBeh dC dI A (xW cI cZ h a qph qgr qne qap qle qfu qpc qgd qri qnw qtk qsv qwa qgi qlo qtu)) A) args s 0 0 A) (F0 m pc ls [.int r]) := fun H locs pc ls r hS hP hD hv d => k_iret hx hb hr hlocks hS hP hD hv d
  generalize MQ below _ _ _ _ _ _ = Q at hret ⊢
  have hin : ∀ w ∈ wsX00, w ∈ wsX0_phaseOfGreatestLoad := by decide +kernel
  have hw0 := hts (.fieldLink RX0 34 "ChargePark" "loadOf" "[I") (by decide +kernel)
  have hl : lv_has ls 3 [(0, .ref h)] := hl
  have hP : va_P (dC, dI) vwCl (xW cI cZ h a qph qgr qne qap qle qfu qpc qgd qri qnw qtk qsv qwa qgi qlo qtu) s.heap := hP
  have hW : ∀ (H : Heap) (locs : List Loc), va_P (dC, dI) vwCl (xW cI cZ h a qph qgr qne qap qle qfu qpc qgd qri qnw qtk qsv qwa qgi qlo qtu) H → va_D A (xW cI cZ h a qph qgr qne qap qle qfu qpc qgd qri qnw qtk qsv qwa qgi qlo qtu) → va_S A s.heap H locs → W p l e rmX0_phaseOfGreatestLoad s m args below meth c H locs 0 0 Q (F0 m 0 ls []) := by
    intro H locs hP hD hS
    refine lv_iconst (v := 0) hx hb dX0_phaseOfGreatestLoad_0 (by decide) ?_
    refine lv_istore_n (lv' := [(1, .int 0), (0, .ref h)]) hx hb dX0_phaseOfGreatestLoad_1 rfl hl (by decide) rfl (fun ls hl => ?_)
    refine lv_iconst (v := 1) hx hb dX0_phaseOfGreatestLoad_2 (by decide) ?_
    refine lv_istore_n (lv' := [(2, .int 1), (1, .int 0), (0, .ref h)]) hx hb dX0_phaseOfGreatestLoad_3 rfl hl (by decide) rfl (fun ls hl => ?_)
    have cont4 : ∀ (z1 : Int32), z1 = (X0_phaseOfGreatestLoad_L4 qlo  2 1 0) → ∀ (H : Heap) (locs : List Loc) (ls : Array Slot), va_P (dC, dI) vwCl (xW cI cZ h a qph qgr qne qap qle qfu qpc qgd qri qnw qtk qsv qwa qgi qlo qtu) H → va_D A (xW cI cZ h a qph qgr qne qap qle qfu qpc qgd qri qnw qtk qsv qwa qgi qlo qtu) → va_S A s.heap H locs → lv_has ls 3 [(0, .ref h), (1, .int z1)] → W p l e rmX0_phaseOfGreatestLoad s m args below meth c H locs 0 0 Q (F0 m 32 ls []) := by
      intro z1 hz1 H locs ls hP hD hS hl
      refine lv_iload_n hx hb dX0_phaseOfGreatestLoad_32 rfl (lv_at hl 1 rfl) ?_
      have hP9 := hP; have hD9 := hD
      subst hz1
      exact hret H locs 33 ls ((X0_phaseOfGreatestLoad_L4 qlo  2 1 0)) hS hP9 hD9 (by rw [X0_phaseOfGreatestLoad]) dX0_phaseOfGreatestLoad_33
    have loop4 : ∀ (j k : Nat) (g : Int32), k + j = 3 → X0_phaseOfGreatestLoad_L4 qlo  j k g = (X0_phaseOfGreatestLoad_L4 qlo  2 1 0) → (vp_in g 3) → ∀ (H : Heap) (locs : List Loc) (ls : Array Slot), va_P (dC, dI) vwCl (xW cI cZ h a qph qgr qne qap qle qfu qpc qgd qri qnw qtk qsv qwa qgi qlo qtu) H → va_D A (xW cI cZ h a qph qgr qne qap qle qfu qpc qgd qri qnw qtk qsv qwa qgi qlo qtu) → va_S A s.heap H locs → lv_has ls 3 [(0, .ref h), (1, .int g), (2, .int (nI k))] → W p l e rmX0_phaseOfGreatestLoad s m args below meth c H locs 0 0 Q (F0 m 4 ls []) := by
      intro j
      induction j with
      | zero =>
        intro k g hk hR hg H locs ls hP hD hS hl
        refine lv_iload_n hx hb dX0_phaseOfGreatestLoad_4 rfl (lv_at hl 2 rfl) ?_
        refine lv_iconst (v := 3) hx hb dX0_phaseOfGreatestLoad_5 (by decide) ?_
        refine lv_icmp_ge (tgt := 32) hx hb dX0_phaseOfGreatestLoad_6 (by decide) (fun _ => ?_) (fun c => absurd (by rw [nIl3]; exact nI_le (by omega) (by omega)) c)
        exact cont4 g (by rw [← hR, X0_phaseOfGreatestLoad_L4]) H locs ls hP hD hS (lv_sub hl [0, 1] rfl)
      | succ j ih =>
        intro k g hk hR hg H locs ls hP hD hS hl
        refine lv_iload_n hx hb dX0_phaseOfGreatestLoad_4 rfl (lv_at hl 2 rfl) ?_
        refine lv_iconst (v := 3) hx hb dX0_phaseOfGreatestLoad_5 (by decide) ?_
        refine lv_icmp_ge (tgt := 32) hx hb dX0_phaseOfGreatestLoad_6 (by decide) (fun c => absurd c (by rw [nIl3]; exact nI_ge (by omega) (by omega))) (fun _ => ?_)
        refine lv_aload_n hx hb dX0_phaseOfGreatestLoad_9 rfl (lv_at hl 0 rfl) ?_
        refine va_get (D := (dC, dI)) (ci := 0) (v := .ref (a 14)) (C := RX0) (T := TX0) (N := 16) hx hb hts hin hown hK hP 0 rfl rfl 14 (by decide) hw0 (fun _ h9 => h9) rfl dX0_phaseOfGreatestLoad_10 ?_
        refine lv_iload_n hx hb dX0_phaseOfGreatestLoad_13 rfl (lv_at hl 2 rfl) ?_
        refine va_iald (f := qlo) hx hb hK hP 9 0 rfl rfl (vp_in_nI (by omega) (by decide)) dX0_phaseOfGreatestLoad_14 ?_
        refine lv_aload_n hx hb dX0_phaseOfGreatestLoad_15 rfl (lv_at hl 0 rfl) ?_
        refine va_get (D := (dC, dI)) (ci := 0) (v := .ref (a 14)) (C := RX0) (T := TX0) (N := 16) hx hb hts hin hown hK hP 0 rfl rfl 14 (by decide) hw0 (fun _ h9 => h9) rfl dX0_phaseOfGreatestLoad_16 ?_
        refine lv_iload_n hx hb dX0_phaseOfGreatestLoad_19 rfl (lv_at hl 1 rfl) ?_
        refine va_iald (f := qlo) hx hb hK hP 9 0 rfl rfl hg dX0_phaseOfGreatestLoad_20 ?_
        refine lv_icmp_le (tgt := 26) hx hb dX0_phaseOfGreatestLoad_21 (by decide) (fun c21 => ?_) (fun c21 => ?_)
        · refine lv_iinc (v := (nI (k + 1))) (lv' := [(2, .int (nI (k + 1))), (0, .ref h), (1, .int g)]) hx hb dX0_phaseOfGreatestLoad_26 hl (k := 2) rfl (nI_1 k) (by decide) rfl (fun ls hl => ?_)
          refine lv_goto (tgt := 4) hx hb dX0_phaseOfGreatestLoad_29 (by decide) ?_
          exact ih (k + 1) g (by omega) (by rw [← hR, X0_phaseOfGreatestLoad_L4, if_pos c21]) (by first | exact hg | exact vp_in_nI (by omega) (by decide)) H locs ls hP hD hS (lv_sub hl [1, 2, 0] rfl)
        · refine lv_iload_n hx hb dX0_phaseOfGreatestLoad_24 rfl (lv_at hl 2 rfl) ?_
          refine lv_istore_n (lv' := [(1, .int (nI k)), (0, .ref h), (2, .int (nI k))]) hx hb dX0_phaseOfGreatestLoad_25 rfl hl (by decide) rfl (fun ls hl => ?_)
          refine lv_iinc (v := (nI (k + 1))) (lv' := [(2, .int (nI (k + 1))), (1, .int (nI k)), (0, .ref h)]) hx hb dX0_phaseOfGreatestLoad_26 hl (k := 2) rfl (nI_1 k) (by decide) rfl (fun ls hl => ?_)
          refine lv_goto (tgt := 4) hx hb dX0_phaseOfGreatestLoad_29 (by decide) ?_
          exact ih (k + 1) (nI k) (by omega) (by rw [← hR, X0_phaseOfGreatestLoad_L4, if_neg c21]) (by first | exact hg | exact vp_in_nI (by omega) (by decide)) H locs ls hP hD hS (lv_sub hl [2, 1, 0] rfl)
    exact loop4 2 1 0 (by omega) rfl (vpc0_3) H locs ls hP hD hS (lv_sub hl [2, 1, 0] rfl)
  exact hW _ _ hP hD hS
def X0_mostGivenAloneAt_L7 (qph : AR) (qgi : AR) (n : Nat) (f : Int32) : Nat → Nat → Int32 → Int32 → Int32 × Int32
  | 0, k, fo, mo => (fo, mo)
  | j + 1, k, fo, mo => (if (qph (nI k).toNatClampNeg) = f then (if (qgi (nI k).toNatClampNeg) < mo then X0_mostGivenAloneAt_L7 qph qgi n f  j (k + 1) fo mo else X0_mostGivenAloneAt_L7 qph qgi n f  j (k + 1) (nI k) (qgi (nI k).toNatClampNeg)) else X0_mostGivenAloneAt_L7 qph qgi n f  j (k + 1) fo mo)
def X0_mostGivenAloneAt (qph : AR) (qgi : AR) (n : Nat) (f : Int32) : Int32 := ((X0_mostGivenAloneAt_L7 qph qgi n f  n 0 (-1) 1).1)
abbrev rmX0_mostGivenAloneAt : Room := { frames := 0, cells := 0, slots := 0, locals := 0 }
theorem hd_X0_mostGivenAloneAt : yX0_mostGivenAloneAt.cls = RX0 ∧ yX0_mostGivenAloneAt.cls ≠ "java/lang/invoke/MethodHandle" ∧ yX0_mostGivenAloneAt.cls ≠ "java/lang/invoke/VarHandle" ∧ (parseMethodDescriptor yX0_mostGivenAloneAt.desc).map (fun d => d.parameters.length) = some 1 := by decide +kernel
theorem X0_mostGivenAloneAt_inL (qph : AR) (qgi : AR) (n : Nat) (f : Int32) (hn : n ≤ 8) : ∀ (j k : Nat) (fo mo : Int32), k + j = n → (fo = -1 ∨ vp_in fo 8) → ((X0_mostGivenAloneAt_L7 qph qgi n f j k fo mo).1 = -1 ∨ vp_in (X0_mostGivenAloneAt_L7 qph qgi n f j k fo mo).1 8) := by
  intro j
  induction j with
  | zero => intro k fo mo hk h; rw [X0_mostGivenAloneAt_L7]; exact h
  | succ j ih =>
    intro k fo mo hk h
    rw [X0_mostGivenAloneAt_L7]
    split
    · split
      · exact ih _ _ _ (by omega) h
      · exact ih _ _ _ (by omega) (Or.inr (vp_in_nI (by omega) (by decide)))
    · exact ih _ _ _ (by omega) h
theorem X0_mostGivenAloneAt_in (qph : AR) (qgi : AR) (n : Nat) (f : Int32) (hn : n ≤ 8) : X0_mostGivenAloneAt qph qgi n f = -1 ∨ vp_in (X0_mostGivenAloneAt qph qgi n f) 8 := by
  rw [X0_mostGivenAloneAt]
  exact X0_mostGivenAloneAt_inL qph qgi n f hn n 0 (-1) 1 (by omega) (Or.inl rfl)
set_option maxHeartbeats 4000000 in
set_option maxRecDepth 100000 in
theorem c_X0_mostGivenAloneAt (l : Launch) (dC : Nat → ClassId) (dI : Nat → Nat → Nat) (cI cZ : ClassId) (h : Nat) (a : Nat → Nat) (qph : AR) (qgr : AR) (qne : AR) (qap : AR) (qle : AR) (qfu : AR) (qpc : Int32) (qgd : Int32) (qri : Int32) (qnw : Int32) (qtk : Int32) (qsv : Int32) (qwa : AR) (qgi : AR) (qlo : AR) (qtu : AR) (n : Nat) (f : Int32) (hpc : qpc = nI n) (hn : n ≤ 8) : Ki l yX0_mostGivenAloneAt wsX0_mostGivenAloneAt rmX0_mostGivenAloneAt dC dI cI cZ [.ref h, .int f] (xW cI cZ h a qph qgr qne qap qle qfu qpc qgd qri qnw qtk qsv qwa qgi qlo qtu) (xW cI cZ h a qph qgr qne qap qle qfu qpc qgd qri qnw qtk qsv qwa qgi qlo qtu) (X0_mostGivenAloneAt qph qgi n f) := by
  refine k_enter_i (cc := cX0_mostGivenAloneAt) (maxL := 5) (ret := some .int) (by decide) rfl (Nat.le_of_ble_eq_true rfl) ?_
  intro p e s m below meth c A ls hC hr hlocks hK hP hD hS hA hl
  generalize List.toArray _ = args at hC ⊢
  obtain ⟨hx, hb, hml, hown, hts⟩ := id hC
  have hret : ∀ (H : Heap) (locs : List Loc) (pc : Nat) (ls : Array Slot) (r : Int32), va_S A s.heap H locs → va_P (dC, dI) vwCl (xW cI cZ h a qph qgr qne qap qle qfu qpc qgd qri qnw qtk qsv qwa qgi qlo qtu) H → va_D A (xW cI cZ h a qph qgr qne qap qle qfu qpc qgd qri qnw qtk qsv qwa qgi qlo qtu) → r = (X0_mostGivenAloneAt qph qgi n f) → decode cX0_mostGivenAloneAt pc = .ok (.ireturn, 1) → W p l e rmX0_mostGivenAloneAt s m args below meth c H locs 0 0 (MQ below (va_Qi (fun r (_ : Unit) => r = (X0_mostGivenAloneAt qph qgi n f)) (kBeh dC dI A (xW cI cZ h a qph qgr qne qap qle qfu qpc qgd qri qnw qtk qsv qwa qgi qlo qtu)) A) args s 0 0 A) (F0 m pc ls [.int r]) := fun H locs pc ls r hS hP hD hv d => k_iret hx hb hr hlocks hS hP hD hv d
  generalize MQ below _ _ _ _ _ _ = Q at hret ⊢
  have hin : ∀ w ∈ wsX00, w ∈ wsX0_mostGivenAloneAt := by decide +kernel
  have hw0 := hts (.fieldLink RX0 55 "ChargePark" "pointCount" "I") (by decide +kernel)
  have hw1 := hts (.fieldLink RX0 9 "ChargePark" "phaseOf" "[I") (by decide +kernel)
  have hw2 := hts (.fieldLink RX0 28 "ChargePark" "given" "[I") (by decide +kernel)
  have hl : lv_has ls 5 [(0, .ref h), (1, .int f)] := hl
  have hP : va_P (dC, dI) vwCl (xW cI cZ h a qph qgr qne qap qle qfu qpc qgd qri qnw qtk qsv qwa qgi qlo qtu) s.heap := hP
  have hW : ∀ (H : Heap) (locs : List Loc), va_P (dC, dI) vwCl (xW cI cZ h a qph qgr qne qap qle qfu qpc qgd qri qnw qtk qsv qwa qgi qlo qtu) H → va_D A (xW cI cZ h a qph qgr qne qap qle qfu qpc qgd qri qnw qtk qsv qwa qgi qlo qtu) → va_S A s.heap H locs → W p l e rmX0_mostGivenAloneAt s m args below meth c H locs 0 0 Q (F0 m 0 ls []) := by
    intro H locs hP hD hS
    refine lv_iconst (v := (-1)) hx hb dX0_mostGivenAloneAt_0 (by decide) ?_
    refine lv_istore_n (lv' := [(2, .int (-1)), (0, .ref h), (1, .int f)]) hx hb dX0_mostGivenAloneAt_1 rfl hl (by decide) rfl (fun ls hl => ?_)
    refine lv_iconst (v := 1) hx hb dX0_mostGivenAloneAt_2 (by decide) ?_
    refine lv_istore_n (lv' := [(3, .int 1), (2, .int (-1)), (0, .ref h), (1, .int f)]) hx hb dX0_mostGivenAloneAt_3 rfl hl (by decide) rfl (fun ls hl => ?_)
    refine lv_iconst (v := 0) hx hb dX0_mostGivenAloneAt_4 (by decide) ?_
    refine lv_istore (lv' := [(4, .int 0), (3, .int 1), (2, .int (-1)), (0, .ref h), (1, .int f)]) hx hb dX0_mostGivenAloneAt_5 hl (by decide) rfl (fun ls hl => ?_)
    have cont7 : ∀ (z1 : Int32), z1 = (X0_mostGivenAloneAt_L7 qph qgi n f  n 0 (-1) 1).1 → ∀ (z2 : Int32), z2 = (X0_mostGivenAloneAt_L7 qph qgi n f  n 0 (-1) 1).2 → ∀ (H : Heap) (locs : List Loc) (ls : Array Slot), va_P (dC, dI) vwCl (xW cI cZ h a qph qgr qne qap qle qfu qpc qgd qri qnw qtk qsv qwa qgi qlo qtu) H → va_D A (xW cI cZ h a qph qgr qne qap qle qfu qpc qgd qri qnw qtk qsv qwa qgi qlo qtu) → va_S A s.heap H locs → lv_has ls 5 [(0, .ref h), (1, .int f), (2, .int z1), (3, .int z2)] → W p l e rmX0_mostGivenAloneAt s m args below meth c H locs 0 0 Q (F0 m 55 ls []) := by
      intro z1 hz1 z2 hz2 H locs ls hP hD hS hl
      refine lv_iload_n hx hb dX0_mostGivenAloneAt_55 rfl (lv_at hl 2 rfl) ?_
      have hP9 := hP; have hD9 := hD
      subst hz1 hz2
      exact hret H locs 56 ls ((X0_mostGivenAloneAt_L7 qph qgi n f  n 0 (-1) 1).1) hS hP9 hD9 (by rw [X0_mostGivenAloneAt]) dX0_mostGivenAloneAt_56
    have loop7 : ∀ (j k : Nat) (fo : Int32) (mo : Int32), k + j = n → X0_mostGivenAloneAt_L7 qph qgi n f  j k fo mo = (X0_mostGivenAloneAt_L7 qph qgi n f  n 0 (-1) 1) → ∀ (H : Heap) (locs : List Loc) (ls : Array Slot), va_P (dC, dI) vwCl (xW cI cZ h a qph qgr qne qap qle qfu qpc qgd qri qnw qtk qsv qwa qgi qlo qtu) H → va_D A (xW cI cZ h a qph qgr qne qap qle qfu qpc qgd qri qnw qtk qsv qwa qgi qlo qtu) → va_S A s.heap H locs → lv_has ls 5 [(0, .ref h), (1, .int f), (2, .int fo), (3, .int mo), (4, .int (nI k))] → W p l e rmX0_mostGivenAloneAt s m args below meth c H locs 0 0 Q (F0 m 7 ls []) := by
      intro j
      induction j with
      | zero =>
        intro k fo mo hk hR  H locs ls hP hD hS hl
        refine lv_iload hx hb dX0_mostGivenAloneAt_7 (lv_at hl 4 rfl) ?_
        refine lv_aload_n hx hb dX0_mostGivenAloneAt_9 rfl (lv_at hl 0 rfl) ?_
        refine va_get (D := (dC, dI)) (ci := 0) (v := .int qpc) (C := RX0) (T := TX0) (N := 16) hx hb hts hin hown hK hP 0 rfl rfl 6 (by decide) hw0 (fun _ h9 => h9) rfl dX0_mostGivenAloneAt_10 ?_
        refine lv_icmp_ge (tgt := 55) hx hb dX0_mostGivenAloneAt_13 (by decide) (fun _ => ?_) (fun c => absurd (by rw [hpc]; exact nI_le (by omega) (by omega)) c)
        exact cont7 fo (by rw [← hR, X0_mostGivenAloneAt_L7]) mo (by rw [← hR, X0_mostGivenAloneAt_L7]) H locs ls hP hD hS (lv_sub hl [0, 1, 2, 3] rfl)
      | succ j ih =>
        intro k fo mo hk hR  H locs ls hP hD hS hl
        refine lv_iload hx hb dX0_mostGivenAloneAt_7 (lv_at hl 4 rfl) ?_
        refine lv_aload_n hx hb dX0_mostGivenAloneAt_9 rfl (lv_at hl 0 rfl) ?_
        refine va_get (D := (dC, dI)) (ci := 0) (v := .int qpc) (C := RX0) (T := TX0) (N := 16) hx hb hts hin hown hK hP 0 rfl rfl 6 (by decide) hw0 (fun _ h9 => h9) rfl dX0_mostGivenAloneAt_10 ?_
        refine lv_icmp_ge (tgt := 55) hx hb dX0_mostGivenAloneAt_13 (by decide) (fun c => absurd c (by rw [hpc]; exact nI_ge (by omega) (by omega))) (fun _ => ?_)
        refine lv_aload_n hx hb dX0_mostGivenAloneAt_16 rfl (lv_at hl 0 rfl) ?_
        refine va_get (D := (dC, dI)) (ci := 0) (v := .ref (a 0)) (C := RX0) (T := TX0) (N := 16) hx hb hts hin hown hK hP 0 rfl rfl 0 (by decide) hw1 (fun _ h9 => h9) rfl dX0_mostGivenAloneAt_17 ?_
        refine lv_iload hx hb dX0_mostGivenAloneAt_20 (lv_at hl 4 rfl) ?_
        refine va_iald (f := qph) hx hb hK hP 1 0 rfl rfl (vp_in_nI (by omega) (by decide)) dX0_mostGivenAloneAt_22 ?_
        refine lv_iload_n hx hb dX0_mostGivenAloneAt_23 rfl (lv_at hl 1 rfl) ?_
        refine lv_icmp_ne (tgt := 49) hx hb dX0_mostGivenAloneAt_24 (by decide) (fun c24 => ?_) (fun c24 => ?_)
        · refine lv_iinc (v := (nI (k + 1))) (lv' := [(4, .int (nI (k + 1))), (0, .ref h), (1, .int f), (2, .int fo), (3, .int mo)]) hx hb dX0_mostGivenAloneAt_49 hl (k := 4) rfl (nI_1 k) (by decide) rfl (fun ls hl => ?_)
          refine lv_goto (tgt := 7) hx hb dX0_mostGivenAloneAt_52 (by decide) ?_
          exact ih (k + 1) fo mo (by omega) (by rw [← hR, X0_mostGivenAloneAt_L7, if_neg c24])  H locs ls hP hD hS (lv_sub hl [1, 2, 3, 4, 0] rfl)
        · refine lv_aload_n hx hb dX0_mostGivenAloneAt_27 rfl (lv_at hl 0 rfl) ?_
          refine va_get (D := (dC, dI)) (ci := 0) (v := .ref (a 13)) (C := RX0) (T := TX0) (N := 16) hx hb hts hin hown hK hP 0 rfl rfl 13 (by decide) hw2 (fun _ h9 => h9) rfl dX0_mostGivenAloneAt_28 ?_
          refine lv_iload hx hb dX0_mostGivenAloneAt_31 (lv_at hl 4 rfl) ?_
          refine va_iald (f := qgi) hx hb hK hP 8 0 rfl rfl (vp_in_nI (by omega) (by decide)) dX0_mostGivenAloneAt_33 ?_
          refine lv_iload_n hx hb dX0_mostGivenAloneAt_34 rfl (lv_at hl 3 rfl) ?_
          refine lv_icmp_lt (tgt := 49) hx hb dX0_mostGivenAloneAt_35 (by decide) (fun c35 => ?_) (fun c35 => ?_)
          · refine lv_iinc (v := (nI (k + 1))) (lv' := [(4, .int (nI (k + 1))), (0, .ref h), (1, .int f), (2, .int fo), (3, .int mo)]) hx hb dX0_mostGivenAloneAt_49 hl (k := 4) rfl (nI_1 k) (by decide) rfl (fun ls hl => ?_)
            refine lv_goto (tgt := 7) hx hb dX0_mostGivenAloneAt_52 (by decide) ?_
            exact ih (k + 1) fo mo (by omega) (by rw [← hR, X0_mostGivenAloneAt_L7, if_pos c24, if_pos c35])  H locs ls hP hD hS (lv_sub hl [1, 2, 3, 4, 0] rfl)
          · refine lv_iload hx hb dX0_mostGivenAloneAt_38 (lv_at hl 4 rfl) ?_
            refine lv_istore_n (lv' := [(2, .int (nI k)), (0, .ref h), (1, .int f), (3, .int mo), (4, .int (nI k))]) hx hb dX0_mostGivenAloneAt_40 rfl hl (by decide) rfl (fun ls hl => ?_)
            refine lv_aload_n hx hb dX0_mostGivenAloneAt_41 rfl (lv_at hl 1 rfl) ?_
            refine va_get (D := (dC, dI)) (ci := 0) (v := .ref (a 13)) (C := RX0) (T := TX0) (N := 16) hx hb hts hin hown hK hP 0 rfl rfl 13 (by decide) hw2 (fun _ h9 => h9) rfl dX0_mostGivenAloneAt_42 ?_
            refine lv_iload hx hb dX0_mostGivenAloneAt_45 (lv_at hl 4 rfl) ?_
            refine va_iald (f := qgi) hx hb hK hP 8 0 rfl rfl (vp_in_nI (by omega) (by decide)) dX0_mostGivenAloneAt_47 ?_
            refine lv_istore_n (lv' := [(3, .int (qgi (nI k).toNatClampNeg)), (2, .int (nI k)), (0, .ref h), (1, .int f), (4, .int (nI k))]) hx hb dX0_mostGivenAloneAt_48 rfl hl (by decide) rfl (fun ls hl => ?_)
            refine lv_iinc (v := (nI (k + 1))) (lv' := [(4, .int (nI (k + 1))), (3, .int (qgi (nI k).toNatClampNeg)), (2, .int (nI k)), (0, .ref h), (1, .int f)]) hx hb dX0_mostGivenAloneAt_49 hl (k := 4) rfl (nI_1 k) (by decide) rfl (fun ls hl => ?_)
            refine lv_goto (tgt := 7) hx hb dX0_mostGivenAloneAt_52 (by decide) ?_
            exact ih (k + 1) (nI k) (qgi (nI k).toNatClampNeg) (by omega) (by rw [← hR, X0_mostGivenAloneAt_L7, if_pos c24, if_neg c35])  H locs ls hP hD hS (lv_sub hl [3, 4, 2, 1, 0] rfl)
    exact loop7 n 0 (-1) 1 (by omega) rfl  H locs ls hP hD hS (lv_sub hl [3, 4, 2, 1, 0] rfl)
  exact hW _ _ hP hD hS
def X0_givenAtAllPhases_L4 (qph : AR) (qgi : AR) (n : Nat) : Nat → Nat → Int32 → Int32
  | 0, k, su => su
  | j + 1, k, su => (if (qph (nI k).toNatClampNeg) = 3 then X0_givenAtAllPhases_L4 qph qgi n  j (k + 1) (su + (qgi (nI k).toNatClampNeg)) else X0_givenAtAllPhases_L4 qph qgi n  j (k + 1) su)
def X0_givenAtAllPhases (qph : AR) (qgi : AR) (n : Nat) : Int32 := ((X0_givenAtAllPhases_L4 qph qgi n  n 0 0))
abbrev rmX0_givenAtAllPhases : Room := { frames := 0, cells := 0, slots := 0, locals := 0 }
theorem hd_X0_givenAtAllPhases : yX0_givenAtAllPhases.cls = RX0 ∧ yX0_givenAtAllPhases.cls ≠ "java/lang/invoke/MethodHandle" ∧ yX0_givenAtAllPhases.cls ≠ "java/lang/invoke/VarHandle" ∧ (parseMethodDescriptor yX0_givenAtAllPhases.desc).map (fun d => d.parameters.length) = some 0 := by decide +kernel
set_option maxHeartbeats 4000000 in
set_option maxRecDepth 100000 in
theorem c_X0_givenAtAllPhases (l : Launch) (dC : Nat → ClassId) (dI : Nat → Nat → Nat) (cI cZ : ClassId) (h : Nat) (a : Nat → Nat) (qph : AR) (qgr : AR) (qne : AR) (qap : AR) (qle : AR) (qfu : AR) (qpc : Int32) (qgd : Int32) (qri : Int32) (qnw : Int32) (qtk : Int32) (qsv : Int32) (qwa : AR) (qgi : AR) (qlo : AR) (qtu : AR) (n : Nat) (hpc : qpc = nI n) (hn : n ≤ 8) : Ki l yX0_givenAtAllPhases wsX0_givenAtAllPhases rmX0_givenAtAllPhases dC dI cI cZ [.ref h] (xW cI cZ h a qph qgr qne qap qle qfu qpc qgd qri qnw qtk qsv qwa qgi qlo qtu) (xW cI cZ h a qph qgr qne qap qle qfu qpc qgd qri qnw qtk qsv qwa qgi qlo qtu) (X0_givenAtAllPhases qph qgi n) := by
  refine k_enter_i (cc := cX0_givenAtAllPhases) (maxL := 3) (ret := some .int) (by decide) rfl (Nat.le_of_ble_eq_true rfl) ?_
  intro p e s m below meth c A ls hC hr hlocks hK hP hD hS hA hl
  generalize List.toArray _ = args at hC ⊢
  obtain ⟨hx, hb, hml, hown, hts⟩ := id hC
  have hret : ∀ (H : Heap) (locs : List Loc) (pc : Nat) (ls : Array Slot) (r : Int32), va_S A s.heap H locs → va_P (dC, dI) vwCl (xW cI cZ h a qph qgr qne qap qle qfu qpc qgd qri qnw qtk qsv qwa qgi qlo qtu) H → va_D A (xW cI cZ h a qph qgr qne qap qle qfu qpc qgd qri qnw qtk qsv qwa qgi qlo qtu) → r = (X0_givenAtAllPhases qph qgi n) → decode cX0_givenAtAllPhases pc = .ok (.ireturn, 1) → W p l e rmX0_givenAtAllPhases s m args below meth c H locs 0 0 (MQ below (va_Qi (fun r (_ : Unit) => r = (X0_givenAtAllPhases qph qgi n)) (kBeh dC dI A (xW cI cZ h a qph qgr qne qap qle qfu qpc qgd qri qnw qtk qsv qwa qgi qlo qtu)) A) args s 0 0 A) (F0 m pc ls [.int r]) := fun H locs pc ls r hS hP hD hv d => k_iret hx hb hr hlocks hS hP hD hv d
  generalize MQ below _ _ _ _ _ _ = Q at hret ⊢
  have hin : ∀ w ∈ wsX00, w ∈ wsX0_givenAtAllPhases := by decide +kernel
  have hw0 := hts (.fieldLink RX0 55 "ChargePark" "pointCount" "I") (by decide +kernel)
  have hw1 := hts (.fieldLink RX0 9 "ChargePark" "phaseOf" "[I") (by decide +kernel)
  have hw2 := hts (.fieldLink RX0 28 "ChargePark" "given" "[I") (by decide +kernel)
  have hl : lv_has ls 3 [(0, .ref h)] := hl
  have hP : va_P (dC, dI) vwCl (xW cI cZ h a qph qgr qne qap qle qfu qpc qgd qri qnw qtk qsv qwa qgi qlo qtu) s.heap := hP
  have hW : ∀ (H : Heap) (locs : List Loc), va_P (dC, dI) vwCl (xW cI cZ h a qph qgr qne qap qle qfu qpc qgd qri qnw qtk qsv qwa qgi qlo qtu) H → va_D A (xW cI cZ h a qph qgr qne qap qle qfu qpc qgd qri qnw qtk qsv qwa qgi qlo qtu) → va_S A s.heap H locs → W p l e rmX0_givenAtAllPhases s m args below meth c H locs 0 0 Q (F0 m 0 ls []) := by
    intro H locs hP hD hS
    refine lv_iconst (v := 0) hx hb dX0_givenAtAllPhases_0 (by decide) ?_
    refine lv_istore_n (lv' := [(1, .int 0), (0, .ref h)]) hx hb dX0_givenAtAllPhases_1 rfl hl (by decide) rfl (fun ls hl => ?_)
    refine lv_iconst (v := 0) hx hb dX0_givenAtAllPhases_2 (by decide) ?_
    refine lv_istore_n (lv' := [(2, .int 0), (1, .int 0), (0, .ref h)]) hx hb dX0_givenAtAllPhases_3 rfl hl (by decide) rfl (fun ls hl => ?_)
    have cont4 : ∀ (z1 : Int32), z1 = (X0_givenAtAllPhases_L4 qph qgi n  n 0 0) → ∀ (H : Heap) (locs : List Loc) (ls : Array Slot), va_P (dC, dI) vwCl (xW cI cZ h a qph qgr qne qap qle qfu qpc qgd qri qnw qtk qsv qwa qgi qlo qtu) H → va_D A (xW cI cZ h a qph qgr qne qap qle qfu qpc qgd qri qnw qtk qsv qwa qgi qlo qtu) → va_S A s.heap H locs → lv_has ls 3 [(0, .ref h), (1, .int z1)] → W p l e rmX0_givenAtAllPhases s m args below meth c H locs 0 0 Q (F0 m 37 ls []) := by
      intro z1 hz1 H locs ls hP hD hS hl
      refine lv_iload_n hx hb dX0_givenAtAllPhases_37 rfl (lv_at hl 1 rfl) ?_
      have hP9 := hP; have hD9 := hD
      subst hz1
      exact hret H locs 38 ls ((X0_givenAtAllPhases_L4 qph qgi n  n 0 0)) hS hP9 hD9 (by rw [X0_givenAtAllPhases]) dX0_givenAtAllPhases_38
    have loop4 : ∀ (j k : Nat) (su : Int32), k + j = n → X0_givenAtAllPhases_L4 qph qgi n  j k su = (X0_givenAtAllPhases_L4 qph qgi n  n 0 0) → ∀ (H : Heap) (locs : List Loc) (ls : Array Slot), va_P (dC, dI) vwCl (xW cI cZ h a qph qgr qne qap qle qfu qpc qgd qri qnw qtk qsv qwa qgi qlo qtu) H → va_D A (xW cI cZ h a qph qgr qne qap qle qfu qpc qgd qri qnw qtk qsv qwa qgi qlo qtu) → va_S A s.heap H locs → lv_has ls 3 [(0, .ref h), (1, .int su), (2, .int (nI k))] → W p l e rmX0_givenAtAllPhases s m args below meth c H locs 0 0 Q (F0 m 4 ls []) := by
      intro j
      induction j with
      | zero =>
        intro k su hk hR  H locs ls hP hD hS hl
        refine lv_iload_n hx hb dX0_givenAtAllPhases_4 rfl (lv_at hl 2 rfl) ?_
        refine lv_aload_n hx hb dX0_givenAtAllPhases_5 rfl (lv_at hl 0 rfl) ?_
        refine va_get (D := (dC, dI)) (ci := 0) (v := .int qpc) (C := RX0) (T := TX0) (N := 16) hx hb hts hin hown hK hP 0 rfl rfl 6 (by decide) hw0 (fun _ h9 => h9) rfl dX0_givenAtAllPhases_6 ?_
        refine lv_icmp_ge (tgt := 37) hx hb dX0_givenAtAllPhases_9 (by decide) (fun _ => ?_) (fun c => absurd (by rw [hpc]; exact nI_le (by omega) (by omega)) c)
        exact cont4 su (by rw [← hR, X0_givenAtAllPhases_L4]) H locs ls hP hD hS (lv_sub hl [0, 1] rfl)
      | succ j ih =>
        intro k su hk hR  H locs ls hP hD hS hl
        refine lv_iload_n hx hb dX0_givenAtAllPhases_4 rfl (lv_at hl 2 rfl) ?_
        refine lv_aload_n hx hb dX0_givenAtAllPhases_5 rfl (lv_at hl 0 rfl) ?_
        refine va_get (D := (dC, dI)) (ci := 0) (v := .int qpc) (C := RX0) (T := TX0) (N := 16) hx hb hts hin hown hK hP 0 rfl rfl 6 (by decide) hw0 (fun _ h9 => h9) rfl dX0_givenAtAllPhases_6 ?_
        refine lv_icmp_ge (tgt := 37) hx hb dX0_givenAtAllPhases_9 (by decide) (fun c => absurd c (by rw [hpc]; exact nI_ge (by omega) (by omega))) (fun _ => ?_)
        refine lv_aload_n hx hb dX0_givenAtAllPhases_12 rfl (lv_at hl 0 rfl) ?_
        refine va_get (D := (dC, dI)) (ci := 0) (v := .ref (a 0)) (C := RX0) (T := TX0) (N := 16) hx hb hts hin hown hK hP 0 rfl rfl 0 (by decide) hw1 (fun _ h9 => h9) rfl dX0_givenAtAllPhases_13 ?_
        refine lv_iload_n hx hb dX0_givenAtAllPhases_16 rfl (lv_at hl 2 rfl) ?_
        refine va_iald (f := qph) hx hb hK hP 1 0 rfl rfl (vp_in_nI (by omega) (by decide)) dX0_givenAtAllPhases_17 ?_
        refine lv_iconst (v := 3) hx hb dX0_givenAtAllPhases_18 (by decide) ?_
        refine lv_icmp_ne (tgt := 31) hx hb dX0_givenAtAllPhases_19 (by decide) (fun c19 => ?_) (fun c19 => ?_)
        · refine lv_iinc (v := (nI (k + 1))) (lv' := [(2, .int (nI (k + 1))), (0, .ref h), (1, .int su)]) hx hb dX0_givenAtAllPhases_31 hl (k := 2) rfl (nI_1 k) (by decide) rfl (fun ls hl => ?_)
          refine lv_goto (tgt := 4) hx hb dX0_givenAtAllPhases_34 (by decide) ?_
          exact ih (k + 1) su (by omega) (by rw [← hR, X0_givenAtAllPhases_L4, if_neg c19])  H locs ls hP hD hS (lv_sub hl [1, 2, 0] rfl)
        · refine lv_iload_n hx hb dX0_givenAtAllPhases_22 rfl (lv_at hl 1 rfl) ?_
          refine lv_aload_n hx hb dX0_givenAtAllPhases_23 rfl (lv_at hl 0 rfl) ?_
          refine va_get (D := (dC, dI)) (ci := 0) (v := .ref (a 13)) (C := RX0) (T := TX0) (N := 16) hx hb hts hin hown hK hP 0 rfl rfl 13 (by decide) hw2 (fun _ h9 => h9) rfl dX0_givenAtAllPhases_24 ?_
          refine lv_iload_n hx hb dX0_givenAtAllPhases_27 rfl (lv_at hl 2 rfl) ?_
          refine va_iald (f := qgi) hx hb hK hP 8 0 rfl rfl (vp_in_nI (by omega) (by decide)) dX0_givenAtAllPhases_28 ?_
          refine lv_iadd hx hb dX0_givenAtAllPhases_29 ?_
          refine lv_istore_n (lv' := [(1, .int (su + (qgi (nI k).toNatClampNeg))), (0, .ref h), (2, .int (nI k))]) hx hb dX0_givenAtAllPhases_30 rfl hl (by decide) rfl (fun ls hl => ?_)
          refine lv_iinc (v := (nI (k + 1))) (lv' := [(2, .int (nI (k + 1))), (1, .int (su + (qgi (nI k).toNatClampNeg))), (0, .ref h)]) hx hb dX0_givenAtAllPhases_31 hl (k := 2) rfl (nI_1 k) (by decide) rfl (fun ls hl => ?_)
          refine lv_goto (tgt := 4) hx hb dX0_givenAtAllPhases_34 (by decide) ?_
          exact ih (k + 1) (su + (qgi (nI k).toNatClampNeg)) (by omega) (by rw [← hR, X0_givenAtAllPhases_L4, if_pos c19])  H locs ls hP hD hS (lv_sub hl [2, 1, 0] rfl)
    exact loop4 n 0 0 (by omega) rfl  H locs ls hP hD hS (lv_sub hl [2, 1, 0] rfl)
  exact hW _ _ hP hD hS
def X0_usedAtLevel_L5 (qph : AR) (qwa : AR) (n : Nat) (f : Int32) (v : Int32) : Nat → Nat → Int32 → Int32
  | 0, k, su => su
  | j + 1, k, su => (if (qph (nI k).toNatClampNeg) = f then X0_usedAtLevel_L5 qph qwa n f v  j (k + 1) (su + (if v < (qwa (nI k).toNatClampNeg) then v else (qwa (nI k).toNatClampNeg))) else X0_usedAtLevel_L5 qph qwa n f v  j (k + 1) su)
def X0_usedAtLevel (qph : AR) (qwa : AR) (n : Nat) (f : Int32) (v : Int32) : Int32 := ((X0_usedAtLevel_L5 qph qwa n f v  n 0 0))
abbrev rmX0_usedAtLevel : Room := { frames := 1, cells := 0, slots := 0, locals := 14 }
theorem hd_X0_usedAtLevel : yX0_usedAtLevel.cls = RX0 ∧ yX0_usedAtLevel.cls ≠ "java/lang/invoke/MethodHandle" ∧ yX0_usedAtLevel.cls ≠ "java/lang/invoke/VarHandle" ∧ (parseMethodDescriptor yX0_usedAtLevel.desc).map (fun d => d.parameters.length) = some 2 := by decide +kernel
set_option maxHeartbeats 4000000 in
set_option maxRecDepth 100000 in
theorem c_X0_usedAtLevel (l : Launch) (dC : Nat → ClassId) (dI : Nat → Nat → Nat) (cI cZ : ClassId) (h : Nat) (a : Nat → Nat) (qph : AR) (qgr : AR) (qne : AR) (qap : AR) (qle : AR) (qfu : AR) (qpc : Int32) (qgd : Int32) (qri : Int32) (qnw : Int32) (qtk : Int32) (qsv : Int32) (qwa : AR) (qgi : AR) (qlo : AR) (qtu : AR) (n : Nat) (f : Int32) (v : Int32) (hpc : qpc = nI n) (hn : n ≤ 8) : Ki l yX0_usedAtLevel wsX0_usedAtLevel rmX0_usedAtLevel dC dI cI cZ [.ref h, .int f, .int v] (xW cI cZ h a qph qgr qne qap qle qfu qpc qgd qri qnw qtk qsv qwa qgi qlo qtu) (xW cI cZ h a qph qgr qne qap qle qfu qpc qgd qri qnw qtk qsv qwa qgi qlo qtu) (X0_usedAtLevel qph qwa n f v) := by
  refine k_enter_i (cc := cX0_usedAtLevel) (maxL := 5) (ret := some .int) (by decide) rfl (Nat.le_of_ble_eq_true rfl) ?_
  intro p e s m below meth c A ls hC hr hlocks hK hP hD hS hA hl
  generalize List.toArray _ = args at hC ⊢
  obtain ⟨hx, hb, hml, hown, hts⟩ := id hC
  have hret : ∀ (H : Heap) (locs : List Loc) (pc : Nat) (ls : Array Slot) (r : Int32), va_S A s.heap H locs → va_P (dC, dI) vwCl (xW cI cZ h a qph qgr qne qap qle qfu qpc qgd qri qnw qtk qsv qwa qgi qlo qtu) H → va_D A (xW cI cZ h a qph qgr qne qap qle qfu qpc qgd qri qnw qtk qsv qwa qgi qlo qtu) → r = (X0_usedAtLevel qph qwa n f v) → decode cX0_usedAtLevel pc = .ok (.ireturn, 1) → W p l e rmX0_usedAtLevel s m args below meth c H locs 0 0 (MQ below (va_Qi (fun r (_ : Unit) => r = (X0_usedAtLevel qph qwa n f v)) (kBeh dC dI A (xW cI cZ h a qph qgr qne qap qle qfu qpc qgd qri qnw qtk qsv qwa qgi qlo qtu)) A) args s 0 0 A) (F0 m pc ls [.int r]) := fun H locs pc ls r hS hP hD hv d => k_iret hx hb hr hlocks hS hP hD hv d
  generalize MQ below _ _ _ _ _ _ = Q at hret ⊢
  have hin : ∀ w ∈ wsX00, w ∈ wsX0_usedAtLevel := by decide +kernel
  have hw0 := hts (.fieldLink RX0 55 "ChargePark" "pointCount" "I") (by decide +kernel)
  have hw1 := hts (.fieldLink RX0 9 "ChargePark" "phaseOf" "[I") (by decide +kernel)
  have hw2 := hts (.fieldLink RX0 25 "ChargePark" "wanted" "[I") (by decide +kernel)
  have hw3 := hts (.methodLink RX0 132 Lib.Math.min.name) (by decide +kernel)
  have hw4 := hts (.static Lib.Math.min.name) (by decide +kernel)
  have hw5 := hts (.initialized "java/lang/Math") (by decide +kernel)
  have hw6 := hts (.code Lib.Math.min.name Lib.Math.min.code 2 (some .int)) (by decide +kernel)
  have hl : lv_has ls 5 [(0, .ref h), (1, .int f), (2, .int v)] := hl
  have hP : va_P (dC, dI) vwCl (xW cI cZ h a qph qgr qne qap qle qfu qpc qgd qri qnw qtk qsv qwa qgi qlo qtu) s.heap := hP
  have hW : ∀ (H : Heap) (locs : List Loc), va_P (dC, dI) vwCl (xW cI cZ h a qph qgr qne qap qle qfu qpc qgd qri qnw qtk qsv qwa qgi qlo qtu) H → va_D A (xW cI cZ h a qph qgr qne qap qle qfu qpc qgd qri qnw qtk qsv qwa qgi qlo qtu) → va_S A s.heap H locs → W p l e rmX0_usedAtLevel s m args below meth c H locs 0 0 Q (F0 m 0 ls []) := by
    intro H locs hP hD hS
    refine lv_iconst (v := 0) hx hb dX0_usedAtLevel_0 (by decide) ?_
    refine lv_istore_n (lv' := [(3, .int 0), (0, .ref h), (1, .int f), (2, .int v)]) hx hb dX0_usedAtLevel_1 rfl hl (by decide) rfl (fun ls hl => ?_)
    refine lv_iconst (v := 0) hx hb dX0_usedAtLevel_2 (by decide) ?_
    refine lv_istore (lv' := [(4, .int 0), (3, .int 0), (0, .ref h), (1, .int f), (2, .int v)]) hx hb dX0_usedAtLevel_3 hl (by decide) rfl (fun ls hl => ?_)
    have cont5 : ∀ (z1 : Int32), z1 = (X0_usedAtLevel_L5 qph qwa n f v  n 0 0) → ∀ (H : Heap) (locs : List Loc) (ls : Array Slot), va_P (dC, dI) vwCl (xW cI cZ h a qph qgr qne qap qle qfu qpc qgd qri qnw qtk qsv qwa qgi qlo qtu) H → va_D A (xW cI cZ h a qph qgr qne qap qle qfu qpc qgd qri qnw qtk qsv qwa qgi qlo qtu) → va_S A s.heap H locs → lv_has ls 5 [(0, .ref h), (1, .int f), (2, .int v), (3, .int z1)] → W p l e rmX0_usedAtLevel s m args below meth c H locs 0 0 Q (F0 m 45 ls []) := by
      intro z1 hz1 H locs ls hP hD hS hl
      refine lv_iload_n hx hb dX0_usedAtLevel_45 rfl (lv_at hl 3 rfl) ?_
      have hP9 := hP; have hD9 := hD
      subst hz1
      exact hret H locs 46 ls ((X0_usedAtLevel_L5 qph qwa n f v  n 0 0)) hS hP9 hD9 (by rw [X0_usedAtLevel]) dX0_usedAtLevel_46
    have loop5 : ∀ (j k : Nat) (su : Int32), k + j = n → X0_usedAtLevel_L5 qph qwa n f v  j k su = (X0_usedAtLevel_L5 qph qwa n f v  n 0 0) → ∀ (H : Heap) (locs : List Loc) (ls : Array Slot), va_P (dC, dI) vwCl (xW cI cZ h a qph qgr qne qap qle qfu qpc qgd qri qnw qtk qsv qwa qgi qlo qtu) H → va_D A (xW cI cZ h a qph qgr qne qap qle qfu qpc qgd qri qnw qtk qsv qwa qgi qlo qtu) → va_S A s.heap H locs → lv_has ls 5 [(0, .ref h), (1, .int f), (2, .int v), (3, .int su), (4, .int (nI k))] → W p l e rmX0_usedAtLevel s m args below meth c H locs 0 0 Q (F0 m 5 ls []) := by
      intro j
      induction j with
      | zero =>
        intro k su hk hR  H locs ls hP hD hS hl
        refine lv_iload hx hb dX0_usedAtLevel_5 (lv_at hl 4 rfl) ?_
        refine lv_aload_n hx hb dX0_usedAtLevel_7 rfl (lv_at hl 0 rfl) ?_
        refine va_get (D := (dC, dI)) (ci := 0) (v := .int qpc) (C := RX0) (T := TX0) (N := 16) hx hb hts hin hown hK hP 0 rfl rfl 6 (by decide) hw0 (fun _ h9 => h9) rfl dX0_usedAtLevel_8 ?_
        refine lv_icmp_ge (tgt := 45) hx hb dX0_usedAtLevel_11 (by decide) (fun _ => ?_) (fun c => absurd (by rw [hpc]; exact nI_le (by omega) (by omega)) c)
        exact cont5 su (by rw [← hR, X0_usedAtLevel_L5]) H locs ls hP hD hS (lv_sub hl [0, 1, 2, 3] rfl)
      | succ j ih =>
        intro k su hk hR  H locs ls hP hD hS hl
        refine lv_iload hx hb dX0_usedAtLevel_5 (lv_at hl 4 rfl) ?_
        refine lv_aload_n hx hb dX0_usedAtLevel_7 rfl (lv_at hl 0 rfl) ?_
        refine va_get (D := (dC, dI)) (ci := 0) (v := .int qpc) (C := RX0) (T := TX0) (N := 16) hx hb hts hin hown hK hP 0 rfl rfl 6 (by decide) hw0 (fun _ h9 => h9) rfl dX0_usedAtLevel_8 ?_
        refine lv_icmp_ge (tgt := 45) hx hb dX0_usedAtLevel_11 (by decide) (fun c => absurd c (by rw [hpc]; exact nI_ge (by omega) (by omega))) (fun _ => ?_)
        refine lv_aload_n hx hb dX0_usedAtLevel_14 rfl (lv_at hl 0 rfl) ?_
        refine va_get (D := (dC, dI)) (ci := 0) (v := .ref (a 0)) (C := RX0) (T := TX0) (N := 16) hx hb hts hin hown hK hP 0 rfl rfl 0 (by decide) hw1 (fun _ h9 => h9) rfl dX0_usedAtLevel_15 ?_
        refine lv_iload hx hb dX0_usedAtLevel_18 (lv_at hl 4 rfl) ?_
        refine va_iald (f := qph) hx hb hK hP 1 0 rfl rfl (vp_in_nI (by omega) (by decide)) dX0_usedAtLevel_20 ?_
        refine lv_iload_n hx hb dX0_usedAtLevel_21 rfl (lv_at hl 1 rfl) ?_
        refine lv_icmp_ne (tgt := 39) hx hb dX0_usedAtLevel_22 (by decide) (fun c22 => ?_) (fun c22 => ?_)
        · refine lv_iinc (v := (nI (k + 1))) (lv' := [(4, .int (nI (k + 1))), (0, .ref h), (1, .int f), (2, .int v), (3, .int su)]) hx hb dX0_usedAtLevel_39 hl (k := 4) rfl (nI_1 k) (by decide) rfl (fun ls hl => ?_)
          refine lv_goto (tgt := 5) hx hb dX0_usedAtLevel_42 (by decide) ?_
          exact ih (k + 1) su (by omega) (by rw [← hR, X0_usedAtLevel_L5, if_neg c22])  H locs ls hP hD hS (lv_sub hl [1, 2, 3, 4, 0] rfl)
        · refine lv_iload_n hx hb dX0_usedAtLevel_25 rfl (lv_at hl 3 rfl) ?_
          refine lv_aload_n hx hb dX0_usedAtLevel_26 rfl (lv_at hl 0 rfl) ?_
          refine va_get (D := (dC, dI)) (ci := 0) (v := .ref (a 12)) (C := RX0) (T := TX0) (N := 16) hx hb hts hin hown hK hP 0 rfl rfl 12 (by decide) hw2 (fun _ h9 => h9) rfl dX0_usedAtLevel_27 ?_
          refine lv_iload hx hb dX0_usedAtLevel_30 (lv_at hl 4 rfl) ?_
          refine va_iald (f := qwa) hx hb hK hP 7 0 rfl rfl (vp_in_nI (by omega) (by decide)) dX0_usedAtLevel_32 ?_
          refine lv_iload_n hx hb dX0_usedAtLevel_33 rfl (lv_at hl 2 rfl) ?_
          refine va_mmin hx hb (hml.trans hl.1.symm) hown hw3 hw4 hw5 hw6 (Nat.le_of_ble_eq_true rfl) (Nat.le_of_ble_eq_true rfl) (Nat.zero_le _) (Nat.zero_le _) dX0_usedAtLevel_34 ?_
          refine lv_iadd hx hb dX0_usedAtLevel_37 ?_
          refine lv_istore_n (lv' := [(3, .int (su + (if v < (qwa (nI k).toNatClampNeg) then v else (qwa (nI k).toNatClampNeg)))), (0, .ref h), (1, .int f), (2, .int v), (4, .int (nI k))]) hx hb dX0_usedAtLevel_38 rfl hl (by decide) rfl (fun ls hl => ?_)
          refine lv_iinc (v := (nI (k + 1))) (lv' := [(4, .int (nI (k + 1))), (3, .int (su + (if v < (qwa (nI k).toNatClampNeg) then v else (qwa (nI k).toNatClampNeg)))), (0, .ref h), (1, .int f), (2, .int v)]) hx hb dX0_usedAtLevel_39 hl (k := 4) rfl (nI_1 k) (by decide) rfl (fun ls hl => ?_)
          refine lv_goto (tgt := 5) hx hb dX0_usedAtLevel_42 (by decide) ?_
          exact ih (k + 1) (su + (if v < (qwa (nI k).toNatClampNeg) then v else (qwa (nI k).toNatClampNeg))) (by omega) (by rw [← hR, X0_usedAtLevel_L5, if_pos c22])  H locs ls hP hD hS (lv_sub hl [2, 3, 4, 1, 0] rfl)
    exact loop5 n 0 0 (by omega) rfl  H locs ls hP hD hS (lv_sub hl [2, 3, 4, 1, 0] rfl)
  exact hW _ _ hP hD hS
def X0_raiseAll_L4 (qph : AR) (qfu : AR) (qwa : AR) (n : Nat) : Nat → Nat → Int32 → AR → AR → Int32 × AR × AR
  | 0, k, ra, vgi, vlo => (ra, vgi, vlo)
  | j + 1, k, ra, vgi, vlo => (if (qwa (nI k).toNatClampNeg) ≤ (vgi (nI k).toNatClampNeg) then X0_raiseAll_L4 qph qfu qwa n  j (k + 1) ra vgi vlo else (if (X0_roomFor qph qfu vlo (nI k)) ≤ 0 then X0_raiseAll_L4 qph qfu qwa n  j (k + 1) ra vgi vlo else X0_raiseAll_L4 qph qfu qwa n  j (k + 1) 1 ((X0_give qph vgi vlo (nI k) 1).1) ((X0_give qph vgi vlo (nI k) 1).2)))
def X0_raiseAll (qph : AR) (qfu : AR) (qwa : AR) (qgi : AR) (qlo : AR) (n : Nat) : Int32 × AR × AR := (((X0_raiseAll_L4 qph qfu qwa n  n 0 0 qgi qlo).1), ((X0_raiseAll_L4 qph qfu qwa n  n 0 0 qgi qlo).2.1), ((X0_raiseAll_L4 qph qfu qwa n  n 0 0 qgi qlo).2.2))
abbrev rmX0_raiseAll : Room := { frames := 2, cells := 0, slots := 0, locals := 45 }
theorem hd_X0_raiseAll : yX0_raiseAll.cls = RX0 ∧ yX0_raiseAll.cls ≠ "java/lang/invoke/MethodHandle" ∧ yX0_raiseAll.cls ≠ "java/lang/invoke/VarHandle" ∧ (parseMethodDescriptor yX0_raiseAll.desc).map (fun d => d.parameters.length) = some 0 := by decide +kernel
theorem X0_raiseAll_z (qph : AR) (qfu : AR) (qwa : AR) (n : Nat) : ∀ (j k : Nat) (ra : Int32) (gi lo : AR), (ra = 0 ∨ ra = 1) → ((X0_raiseAll_L4 qph qfu qwa n j k ra gi lo).1 = 0 ∨ (X0_raiseAll_L4 qph qfu qwa n j k ra gi lo).1 = 1) := by
  intro j
  induction j with
  | zero => intro k ra gi lo h; rw [X0_raiseAll_L4]; exact h
  | succ j ih =>
    intro k ra gi lo h
    rw [X0_raiseAll_L4]
    split
    · exact ih _ _ _ _ h
    · split
      · exact ih _ _ _ _ h
      · exact ih _ _ _ _ (Or.inr rfl)
set_option maxHeartbeats 4000000 in
set_option maxRecDepth 100000 in
theorem c_X0_raiseAll (l : Launch) (dC : Nat → ClassId) (dI : Nat → Nat → Nat) (cI cZ : ClassId) (h : Nat) (a : Nat → Nat) (qph : AR) (qgr : AR) (qne : AR) (qap : AR) (qle : AR) (qfu : AR) (qpc : Int32) (qgd : Int32) (qri : Int32) (qnw : Int32) (qtk : Int32) (qsv : Int32) (qwa : AR) (qgi : AR) (qlo : AR) (qtu : AR) (n : Nat) (hpc : qpc = nI n) (hn : n ≤ 8) : Ki l yX0_raiseAll wsX0_raiseAll rmX0_raiseAll dC dI cI cZ [.ref h] (xW cI cZ h a qph qgr qne qap qle qfu qpc qgd qri qnw qtk qsv qwa qgi qlo qtu) (xW cI cZ h a qph qgr qne qap qle qfu qpc qgd qri qnw qtk qsv qwa ((X0_raiseAll qph qfu qwa qgi qlo n).2.1) ((X0_raiseAll qph qfu qwa qgi qlo n).2.2) qtu) (X0_raiseAll qph qfu qwa qgi qlo n).1 := by
  refine k_enter_i (cc := cX0_raiseAll) (maxL := 3) (ret := some .boolean) (by decide) rfl (Nat.le_of_ble_eq_true rfl) ?_
  intro p e s m below meth c A ls hC hr hlocks hK hP hD hS hA hl
  generalize List.toArray _ = args at hC ⊢
  obtain ⟨hx, hb, hml, hown, hts⟩ := id hC
  have hret : ∀ (H : Heap) (locs : List Loc) (pc : Nat) (ls : Array Slot) (r : Int32), va_S A s.heap H locs → va_P (dC, dI) vwCl (xW cI cZ h a qph qgr qne qap qle qfu qpc qgd qri qnw qtk qsv qwa ((X0_raiseAll qph qfu qwa qgi qlo n).2.1) ((X0_raiseAll qph qfu qwa qgi qlo n).2.2) qtu) H → va_D A (xW cI cZ h a qph qgr qne qap qle qfu qpc qgd qri qnw qtk qsv qwa ((X0_raiseAll qph qfu qwa qgi qlo n).2.1) ((X0_raiseAll qph qfu qwa qgi qlo n).2.2) qtu) → r = (X0_raiseAll qph qfu qwa qgi qlo n).1 → (r = 0 ∨ r = 1) → decode cX0_raiseAll pc = .ok (.ireturn, 1) → W p l e rmX0_raiseAll s m args below meth c H locs 0 0 (MQ below (va_Qi (fun r (_ : Unit) => r = (X0_raiseAll qph qfu qwa qgi qlo n).1) (kBeh dC dI A (xW cI cZ h a qph qgr qne qap qle qfu qpc qgd qri qnw qtk qsv qwa ((X0_raiseAll qph qfu qwa qgi qlo n).2.1) ((X0_raiseAll qph qfu qwa qgi qlo n).2.2) qtu)) A) args s 0 0 A) (F0 m pc ls [.int r]) := fun H locs pc ls r hS hP hD hv hz d => k_zret hx hb hr hlocks hS hP hD hv hz d
  generalize MQ below _ _ _ _ _ _ = Q at hret ⊢
  have hin : ∀ w ∈ wsX00, w ∈ wsX0_raiseAll := by decide +kernel
  have hw0 := hts (.fieldLink RX0 55 "ChargePark" "pointCount" "I") (by decide +kernel)
  have hw1 := hts (.fieldLink RX0 28 "ChargePark" "given" "[I") (by decide +kernel)
  have hw2 := hts (.fieldLink RX0 25 "ChargePark" "wanted" "[I") (by decide +kernel)
  have hl : lv_has ls 3 [(0, .ref h)] := hl
  have hP : va_P (dC, dI) vwCl (xW cI cZ h a qph qgr qne qap qle qfu qpc qgd qri qnw qtk qsv qwa qgi qlo qtu) s.heap := hP
  have hW : ∀ (H : Heap) (locs : List Loc), va_P (dC, dI) vwCl (xW cI cZ h a qph qgr qne qap qle qfu qpc qgd qri qnw qtk qsv qwa qgi qlo qtu) H → va_D A (xW cI cZ h a qph qgr qne qap qle qfu qpc qgd qri qnw qtk qsv qwa qgi qlo qtu) → va_S A s.heap H locs → W p l e rmX0_raiseAll s m args below meth c H locs 0 0 Q (F0 m 0 ls []) := by
    intro H locs hP hD hS
    refine lv_iconst (v := 0) hx hb dX0_raiseAll_0 (by decide) ?_
    refine lv_istore_n (lv' := [(1, .int 0), (0, .ref h)]) hx hb dX0_raiseAll_1 rfl hl (by decide) rfl (fun ls hl => ?_)
    refine lv_iconst (v := 0) hx hb dX0_raiseAll_2 (by decide) ?_
    refine lv_istore_n (lv' := [(2, .int 0), (1, .int 0), (0, .ref h)]) hx hb dX0_raiseAll_3 rfl hl (by decide) rfl (fun ls hl => ?_)
    have cont4 : ∀ (z1 : Int32), z1 = (X0_raiseAll_L4 qph qfu qwa n  n 0 0 qgi qlo).1 → ∀ (z2 : AR), z2 = (X0_raiseAll_L4 qph qfu qwa n  n 0 0 qgi qlo).2.1 → ∀ (z3 : AR), z3 = (X0_raiseAll_L4 qph qfu qwa n  n 0 0 qgi qlo).2.2 → ∀ (H : Heap) (locs : List Loc) (ls : Array Slot), va_P (dC, dI) vwCl (xW cI cZ h a qph qgr qne qap qle qfu qpc qgd qri qnw qtk qsv qwa z2 z3 qtu) H → va_D A (xW cI cZ h a qph qgr qne qap qle qfu qpc qgd qri qnw qtk qsv qwa z2 z3 qtu) → va_S A s.heap H locs → lv_has ls 3 [(0, .ref h), (1, .int z1)] → W p l e rmX0_raiseAll s m args below meth c H locs 0 0 Q (F0 m 49 ls []) := by
      intro z1 hz1 z2 hz2 z3 hz3 H locs ls hP hD hS hl
      refine lv_iload_n hx hb dX0_raiseAll_49 rfl (lv_at hl 1 rfl) ?_
      have hP9 := hP; have hD9 := hD
      subst hz1 hz2 hz3
      have hP8 : va_P (dC, dI) vwCl (xW cI cZ h a qph qgr qne qap qle qfu qpc qgd qri qnw qtk qsv qwa ((X0_raiseAll qph qfu qwa qgi qlo n).2.1) ((X0_raiseAll qph qfu qwa qgi qlo n).2.2) qtu) H := by rw [X0_raiseAll]; exact hP9
      have hD8 : va_D A (xW cI cZ h a qph qgr qne qap qle qfu qpc qgd qri qnw qtk qsv qwa ((X0_raiseAll qph qfu qwa qgi qlo n).2.1) ((X0_raiseAll qph qfu qwa qgi qlo n).2.2) qtu) := by rw [X0_raiseAll]; exact hD9
      exact hret H locs 50 ls ((X0_raiseAll_L4 qph qfu qwa n  n 0 0 qgi qlo).1) hS hP8 hD8 (by rw [X0_raiseAll]) (X0_raiseAll_z qph qfu qwa n n 0 0 qgi qlo (Or.inl rfl)) dX0_raiseAll_50
    have loop4 : ∀ (j k : Nat) (ra : Int32) (vgi : AR) (vlo : AR), k + j = n → X0_raiseAll_L4 qph qfu qwa n  j k ra vgi vlo = (X0_raiseAll_L4 qph qfu qwa n  n 0 0 qgi qlo) → ∀ (H : Heap) (locs : List Loc) (ls : Array Slot), va_P (dC, dI) vwCl (xW cI cZ h a qph qgr qne qap qle qfu qpc qgd qri qnw qtk qsv qwa vgi vlo qtu) H → va_D A (xW cI cZ h a qph qgr qne qap qle qfu qpc qgd qri qnw qtk qsv qwa vgi vlo qtu) → va_S A s.heap H locs → lv_has ls 3 [(0, .ref h), (1, .int ra), (2, .int (nI k))] → W p l e rmX0_raiseAll s m args below meth c H locs 0 0 Q (F0 m 4 ls []) := by
      intro j
      induction j with
      | zero =>
        intro k ra vgi vlo hk hR  H locs ls hP hD hS hl
        refine lv_iload_n hx hb dX0_raiseAll_4 rfl (lv_at hl 2 rfl) ?_
        refine lv_aload_n hx hb dX0_raiseAll_5 rfl (lv_at hl 0 rfl) ?_
        refine va_get (D := (dC, dI)) (ci := 0) (v := .int qpc) (C := RX0) (T := TX0) (N := 16) hx hb hts hin hown hK hP 0 rfl rfl 6 (by decide) hw0 (fun _ h9 => h9) rfl dX0_raiseAll_6 ?_
        refine lv_icmp_ge (tgt := 49) hx hb dX0_raiseAll_9 (by decide) (fun _ => ?_) (fun c => absurd (by rw [hpc]; exact nI_le (by omega) (by omega)) c)
        exact cont4 ra (by rw [← hR, X0_raiseAll_L4]) vgi (by rw [← hR, X0_raiseAll_L4]) vlo (by rw [← hR, X0_raiseAll_L4]) H locs ls hP hD hS (lv_sub hl [0, 1] rfl)
      | succ j ih =>
        intro k ra vgi vlo hk hR  H locs ls hP hD hS hl
        refine lv_iload_n hx hb dX0_raiseAll_4 rfl (lv_at hl 2 rfl) ?_
        refine lv_aload_n hx hb dX0_raiseAll_5 rfl (lv_at hl 0 rfl) ?_
        refine va_get (D := (dC, dI)) (ci := 0) (v := .int qpc) (C := RX0) (T := TX0) (N := 16) hx hb hts hin hown hK hP 0 rfl rfl 6 (by decide) hw0 (fun _ h9 => h9) rfl dX0_raiseAll_6 ?_
        refine lv_icmp_ge (tgt := 49) hx hb dX0_raiseAll_9 (by decide) (fun c => absurd c (by rw [hpc]; exact nI_ge (by omega) (by omega))) (fun _ => ?_)
        refine lv_aload_n hx hb dX0_raiseAll_12 rfl (lv_at hl 0 rfl) ?_
        refine va_get (D := (dC, dI)) (ci := 0) (v := .ref (a 13)) (C := RX0) (T := TX0) (N := 16) hx hb hts hin hown hK hP 0 rfl rfl 13 (by decide) hw1 (fun _ h9 => h9) rfl dX0_raiseAll_13 ?_
        refine lv_iload_n hx hb dX0_raiseAll_16 rfl (lv_at hl 2 rfl) ?_
        refine va_iald (f := vgi) hx hb hK hP 8 0 rfl rfl (vp_in_nI (by omega) (by decide)) dX0_raiseAll_17 ?_
        refine lv_aload_n hx hb dX0_raiseAll_18 rfl (lv_at hl 0 rfl) ?_
        refine va_get (D := (dC, dI)) (ci := 0) (v := .ref (a 12)) (C := RX0) (T := TX0) (N := 16) hx hb hts hin hown hK hP 0 rfl rfl 12 (by decide) hw2 (fun _ h9 => h9) rfl dX0_raiseAll_19 ?_
        refine lv_iload_n hx hb dX0_raiseAll_22 rfl (lv_at hl 2 rfl) ?_
        refine va_iald (f := qwa) hx hb hK hP 7 0 rfl rfl (vp_in_nI (by omega) (by decide)) dX0_raiseAll_23 ?_
        refine lv_icmp_ge (tgt := 43) hx hb dX0_raiseAll_24 (by decide) (fun c24 => ?_) (fun c24 => ?_)
        · refine lv_iinc (v := (nI (k + 1))) (lv' := [(2, .int (nI (k + 1))), (0, .ref h), (1, .int ra)]) hx hb dX0_raiseAll_43 hl (k := 2) rfl (nI_1 k) (by decide) rfl (fun ls hl => ?_)
          refine lv_goto (tgt := 4) hx hb dX0_raiseAll_46 (by decide) ?_
          exact ih (k + 1) ra vgi vlo (by omega) (by rw [← hR, X0_raiseAll_L4, if_pos c24])  H locs ls hP hD hS (lv_sub hl [1, 2, 0] rfl)
        · refine lv_aload_n hx hb dX0_raiseAll_27 rfl (lv_at hl 0 rfl) ?_
          refine lv_iload_n hx hb dX0_raiseAll_28 rfl (lv_at hl 2 rfl) ?_
          refine k_calli (rest := []) (q0 := 0) hC (c_X0_roomFor l dC dI cI cZ h a qph qgr qne qap qle qfu qpc qgd qri qnw qtk qsv qwa vgi vlo qtu  (nI k) (vp_in_nI (by omega) (by decide))) (cwV 1 hts gX0_raiseAll_X0_roomFor rfl rfl rfl hd_X0_roomFor ⟨Nat.le_of_ble_eq_true rfl, Nat.le_of_ble_eq_true rfl⟩) hK hP hD hS hA rfl rfl rfl hl.1 (Nat.le_of_ble_eq_true rfl) dX0_raiseAll_29 rfl ⟨Nat.zero_le _, Nat.zero_le _⟩ (fun H locs hP hD hS => ?_)
          refine lv_if_le (tgt := 43) hx hb dX0_raiseAll_32 (by decide) (fun c32 => ?_) (fun c32 => ?_)
          · refine lv_iinc (v := (nI (k + 1))) (lv' := [(2, .int (nI (k + 1))), (0, .ref h), (1, .int ra)]) hx hb dX0_raiseAll_43 hl (k := 2) rfl (nI_1 k) (by decide) rfl (fun ls hl => ?_)
            refine lv_goto (tgt := 4) hx hb dX0_raiseAll_46 (by decide) ?_
            exact ih (k + 1) ra vgi vlo (by omega) (by rw [← hR, X0_raiseAll_L4, if_neg c24, if_pos c32])  H locs ls hP hD hS (lv_sub hl [1, 2, 0] rfl)
          · refine lv_aload_n hx hb dX0_raiseAll_35 rfl (lv_at hl 0 rfl) ?_
            refine lv_iload_n hx hb dX0_raiseAll_36 rfl (lv_at hl 2 rfl) ?_
            refine lv_iconst (v := 1) hx hb dX0_raiseAll_37 (by decide) ?_
            refine k_callv (rest := []) (q0 := 0) hC (c_X0_give l dC dI cI cZ h a qph qgr qne qap qle qfu qpc qgd qri qnw qtk qsv qwa vgi vlo qtu  (nI k) 1 (vp_in_nI (by omega) (by decide))) (cwV 2 hts gX0_raiseAll_X0_give rfl rfl rfl hd_X0_give ⟨Nat.le_of_ble_eq_true rfl, Nat.le_of_ble_eq_true rfl⟩) hK hP hD hS hA rfl rfl rfl hl.1 (Nat.le_of_ble_eq_true rfl) dX0_raiseAll_38 rfl ⟨Nat.zero_le _, Nat.zero_le _⟩ (fun H locs hP hD hS => ?_)
            obtain ⟨z4, hz4⟩ : ∃ z : AR, z = ((X0_give qph vgi vlo (nI k) 1).1) := ⟨_, rfl⟩
            rw [← hz4] at hP hD
            obtain ⟨z5, hz5⟩ : ∃ z : AR, z = ((X0_give qph vgi vlo (nI k) 1).2) := ⟨_, rfl⟩
            rw [← hz5] at hP hD
            have hP : va_P (dC, dI) vwCl (xW cI cZ h a qph qgr qne qap qle qfu qpc qgd qri qnw qtk qsv qwa z4 z5 qtu) H := hP
            have hD : va_D A (xW cI cZ h a qph qgr qne qap qle qfu qpc qgd qri qnw qtk qsv qwa z4 z5 qtu) := hD
            refine lv_iconst (v := 1) hx hb dX0_raiseAll_41 (by decide) ?_
            refine lv_istore_n (lv' := [(1, .int 1), (0, .ref h), (2, .int (nI k))]) hx hb dX0_raiseAll_42 rfl hl (by decide) rfl (fun ls hl => ?_)
            refine lv_iinc (v := (nI (k + 1))) (lv' := [(2, .int (nI (k + 1))), (1, .int 1), (0, .ref h)]) hx hb dX0_raiseAll_43 hl (k := 2) rfl (nI_1 k) (by decide) rfl (fun ls hl => ?_)
            refine lv_goto (tgt := 4) hx hb dX0_raiseAll_46 (by decide) ?_
            have hP9 := hP; have hD9 := hD; have hl9 := hl; have hR9 := hR; have ih9 := ih
            subst hz4 hz5
            exact ih9 (k + 1) 1 ((X0_give qph vgi vlo (nI k) 1).1) ((X0_give qph vgi vlo (nI k) 1).2) (by omega) (by rw [← hR9, X0_raiseAll_L4, if_neg c24, if_neg c32])  H locs ls hP9 hD9 hS (lv_sub hl9 [2, 1, 0] rfl)
    exact loop4 n 0 0 qgi qlo (by omega) rfl  H locs ls hP hD hS (lv_sub hl [2, 1, 0] rfl)
  exact hW _ _ hP hD hS
def X0_shareFairly_L4 (qph : AR) (qfu : AR) (qwa : AR) (n : Nat) : Nat → Nat → Int32 → AR → AR → Int32 × AR × AR
  | 0, k, ra, vgi, vlo => (if ra = 0 then (ra, vgi, vlo) else (ra, vgi, vlo))
  | j + 1, k, ra, vgi, vlo => (if ra = 0 then (ra, vgi, vlo) else X0_shareFairly_L4 qph qfu qwa n  j (k + 1) ((X0_raiseAll qph qfu qwa vgi vlo n).1) ((X0_raiseAll qph qfu qwa vgi vlo n).2.1) ((X0_raiseAll qph qfu qwa vgi vlo n).2.2))
def X0_shareFairly (qph : AR) (qfu : AR) (qwa : AR) (qgi : AR) (qlo : AR) (n : Nat) : AR × AR := (((X0_shareFairly_L4 qph qfu qwa n  32 0 1 qgi qlo).2.1), ((X0_shareFairly_L4 qph qfu qwa n  32 0 1 qgi qlo).2.2))
abbrev rmX0_shareFairly : Room := { frames := 3, cells := 0, slots := 0, locals := 67 }
theorem hd_X0_shareFairly : yX0_shareFairly.cls = RX0 ∧ yX0_shareFairly.cls ≠ "java/lang/invoke/MethodHandle" ∧ yX0_shareFairly.cls ≠ "java/lang/invoke/VarHandle" ∧ (parseMethodDescriptor yX0_shareFairly.desc).map (fun d => d.parameters.length) = some 0 := by decide +kernel
set_option maxHeartbeats 4000000 in
set_option maxRecDepth 100000 in
theorem c_X0_shareFairly (l : Launch) (dC : Nat → ClassId) (dI : Nat → Nat → Nat) (cI cZ : ClassId) (h : Nat) (a : Nat → Nat) (qph : AR) (qgr : AR) (qne : AR) (qap : AR) (qle : AR) (qfu : AR) (qpc : Int32) (qgd : Int32) (qri : Int32) (qnw : Int32) (qtk : Int32) (qsv : Int32) (qwa : AR) (qgi : AR) (qlo : AR) (qtu : AR) (n : Nat) (hpc : qpc = nI n) (hn : n ≤ 8) : Kv l yX0_shareFairly wsX0_shareFairly rmX0_shareFairly dC dI cI cZ [.ref h] (xW cI cZ h a qph qgr qne qap qle qfu qpc qgd qri qnw qtk qsv qwa qgi qlo qtu) (xW cI cZ h a qph qgr qne qap qle qfu qpc qgd qri qnw qtk qsv qwa ((X0_shareFairly qph qfu qwa qgi qlo n).1) ((X0_shareFairly qph qfu qwa qgi qlo n).2) qtu) := by
  refine k_enter_v (cc := cX0_shareFairly) (maxL := 3) (ret := none) (by decide) rfl (Nat.le_of_ble_eq_true rfl) ?_
  intro p e s m below meth c A ls hC hr hlocks hK hP hD hS hA hl
  generalize List.toArray _ = args at hC ⊢
  obtain ⟨hx, hb, hml, hown, hts⟩ := id hC
  have hret : ∀ (H : Heap) (locs : List Loc) (pc : Nat) (ls : Array Slot), va_S A s.heap H locs → va_P (dC, dI) vwCl (xW cI cZ h a qph qgr qne qap qle qfu qpc qgd qri qnw qtk qsv qwa ((X0_shareFairly qph qfu qwa qgi qlo n).1) ((X0_shareFairly qph qfu qwa qgi qlo n).2) qtu) H → va_D A (xW cI cZ h a qph qgr qne qap qle qfu qpc qgd qri qnw qtk qsv qwa ((X0_shareFairly qph qfu qwa qgi qlo n).1) ((X0_shareFairly qph qfu qwa qgi qlo n).2) qtu) → decode cX0_shareFairly pc = .ok (.return_, 1) → W p l e rmX0_shareFairly s m args below meth c H locs 0 0 (MQ below (va_Qv (fun (_ : Unit) => True) (kBeh dC dI A (xW cI cZ h a qph qgr qne qap qle qfu qpc qgd qri qnw qtk qsv qwa ((X0_shareFairly qph qfu qwa qgi qlo n).1) ((X0_shareFairly qph qfu qwa qgi qlo n).2) qtu)) A) args s 0 0 A) (F0 m pc ls []) := fun H locs pc ls hS hP hD d => k_vret hx hb hr hlocks hS hP hD d
  generalize MQ below _ _ _ _ _ _ = Q at hret ⊢
  have hl : lv_has ls 3 [(0, .ref h)] := hl
  have hP : va_P (dC, dI) vwCl (xW cI cZ h a qph qgr qne qap qle qfu qpc qgd qri qnw qtk qsv qwa qgi qlo qtu) s.heap := hP
  have hW : ∀ (H : Heap) (locs : List Loc), va_P (dC, dI) vwCl (xW cI cZ h a qph qgr qne qap qle qfu qpc qgd qri qnw qtk qsv qwa qgi qlo qtu) H → va_D A (xW cI cZ h a qph qgr qne qap qle qfu qpc qgd qri qnw qtk qsv qwa qgi qlo qtu) → va_S A s.heap H locs → W p l e rmX0_shareFairly s m args below meth c H locs 0 0 Q (F0 m 0 ls []) := by
    intro H locs hP hD hS
    refine lv_iconst (v := 1) hx hb dX0_shareFairly_0 (by decide) ?_
    refine lv_istore_n (lv' := [(1, .int 1), (0, .ref h)]) hx hb dX0_shareFairly_1 rfl hl (by decide) rfl (fun ls hl => ?_)
    refine lv_iconst (v := 0) hx hb dX0_shareFairly_2 (by decide) ?_
    refine lv_istore_n (lv' := [(2, .int 0), (1, .int 1), (0, .ref h)]) hx hb dX0_shareFairly_3 rfl hl (by decide) rfl (fun ls hl => ?_)
    have cont4 : ∀ (z1 : Int32), z1 = (X0_shareFairly_L4 qph qfu qwa n  32 0 1 qgi qlo).1 → ∀ (z2 : AR), z2 = (X0_shareFairly_L4 qph qfu qwa n  32 0 1 qgi qlo).2.1 → ∀ (z3 : AR), z3 = (X0_shareFairly_L4 qph qfu qwa n  32 0 1 qgi qlo).2.2 → ∀ (H : Heap) (locs : List Loc) (ls : Array Slot), va_P (dC, dI) vwCl (xW cI cZ h a qph qgr qne qap qle qfu qpc qgd qri qnw qtk qsv qwa z2 z3 qtu) H → va_D A (xW cI cZ h a qph qgr qne qap qle qfu qpc qgd qri qnw qtk qsv qwa z2 z3 qtu) → va_S A s.heap H locs → lv_has ls 3 [(0, .ref h), (1, .int z1)] → W p l e rmX0_shareFairly s m args below meth c H locs 0 0 Q (F0 m 25 ls []) := by
      intro z1 hz1 z2 hz2 z3 hz3 H locs ls hP hD hS hl
      have hP9 := hP; have hD9 := hD
      subst hz1 hz2 hz3
      have hP8 : va_P (dC, dI) vwCl (xW cI cZ h a qph qgr qne qap qle qfu qpc qgd qri qnw qtk qsv qwa ((X0_shareFairly qph qfu qwa qgi qlo n).1) ((X0_shareFairly qph qfu qwa qgi qlo n).2) qtu) H := by rw [X0_shareFairly]; exact hP9
      have hD8 : va_D A (xW cI cZ h a qph qgr qne qap qle qfu qpc qgd qri qnw qtk qsv qwa ((X0_shareFairly qph qfu qwa qgi qlo n).1) ((X0_shareFairly qph qfu qwa qgi qlo n).2) qtu) := by rw [X0_shareFairly]; exact hD9
      exact hret H locs 25 ls hS hP8 hD8 dX0_shareFairly_25
    have loop4 : ∀ (j k : Nat) (ra : Int32) (vgi : AR) (vlo : AR), k + j = 32 → X0_shareFairly_L4 qph qfu qwa n  j k ra vgi vlo = (X0_shareFairly_L4 qph qfu qwa n  32 0 1 qgi qlo) → ∀ (H : Heap) (locs : List Loc) (ls : Array Slot), va_P (dC, dI) vwCl (xW cI cZ h a qph qgr qne qap qle qfu qpc qgd qri qnw qtk qsv qwa vgi vlo qtu) H → va_D A (xW cI cZ h a qph qgr qne qap qle qfu qpc qgd qri qnw qtk qsv qwa vgi vlo qtu) → va_S A s.heap H locs → lv_has ls 3 [(0, .ref h), (1, .int ra), (2, .int (nI k))] → W p l e rmX0_shareFairly s m args below meth c H locs 0 0 Q (F0 m 4 ls []) := by
      intro j
      induction j with
      | zero =>
        intro k ra vgi vlo hk hR  H locs ls hP hD hS hl
        refine lv_iload_n hx hb dX0_shareFairly_4 rfl (lv_at hl 1 rfl) ?_
        refine lv_if_eq (tgt := 25) hx hb dX0_shareFairly_5 (by decide) (fun c5 => ?_) (fun c5 => ?_)
        · exact cont4 ra (by rw [← hR, X0_shareFairly_L4, if_pos c5]) vgi (by rw [← hR, X0_shareFairly_L4, if_pos c5]) vlo (by rw [← hR, X0_shareFairly_L4, if_pos c5]) H locs ls hP hD hS (lv_sub hl [0, 1] rfl)
        · refine lv_iload_n hx hb dX0_shareFairly_8 rfl (lv_at hl 2 rfl) ?_
          refine lv_bipush (v := 32) hx hb dX0_shareFairly_9 (by decide) ?_
          refine lv_icmp_ge (tgt := 25) hx hb dX0_shareFairly_11 (by decide) (fun _ => ?_) (fun c => absurd (by rw [nIl32]; exact nI_le (by omega) (by omega)) c)
          exact cont4 ra (by rw [← hR, X0_shareFairly_L4, if_neg c5]) vgi (by rw [← hR, X0_shareFairly_L4, if_neg c5]) vlo (by rw [← hR, X0_shareFairly_L4, if_neg c5]) H locs ls hP hD hS (lv_sub hl [0, 1] rfl)
      | succ j ih =>
        intro k ra vgi vlo hk hR  H locs ls hP hD hS hl
        refine lv_iload_n hx hb dX0_shareFairly_4 rfl (lv_at hl 1 rfl) ?_
        refine lv_if_eq (tgt := 25) hx hb dX0_shareFairly_5 (by decide) (fun c5 => ?_) (fun c5 => ?_)
        · exact cont4 ra (by rw [← hR, X0_shareFairly_L4, if_pos c5]) vgi (by rw [← hR, X0_shareFairly_L4, if_pos c5]) vlo (by rw [← hR, X0_shareFairly_L4, if_pos c5]) H locs ls hP hD hS (lv_sub hl [0, 1] rfl)
        · refine lv_iload_n hx hb dX0_shareFairly_8 rfl (lv_at hl 2 rfl) ?_
          refine lv_bipush (v := 32) hx hb dX0_shareFairly_9 (by decide) ?_
          refine lv_icmp_ge (tgt := 25) hx hb dX0_shareFairly_11 (by decide) (fun c => absurd c (by rw [nIl32]; exact nI_ge (by omega) (by omega))) (fun _ => ?_)
          refine lv_aload_n hx hb dX0_shareFairly_14 rfl (lv_at hl 0 rfl) ?_
          refine k_calli (rest := []) (q0 := 0) hC (c_X0_raiseAll l dC dI cI cZ h a qph qgr qne qap qle qfu qpc qgd qri qnw qtk qsv qwa vgi vlo qtu n  hpc hn) (cwV 0 hts gX0_shareFairly_X0_raiseAll rfl rfl rfl hd_X0_raiseAll ⟨Nat.le_of_ble_eq_true rfl, Nat.le_of_ble_eq_true rfl⟩) hK hP hD hS hA rfl rfl rfl hl.1 (Nat.le_of_ble_eq_true rfl) dX0_shareFairly_15 rfl ⟨Nat.zero_le _, Nat.zero_le _⟩ (fun H locs hP hD hS => ?_)
          obtain ⟨z4, hz4⟩ : ∃ z : AR, z = ((X0_raiseAll qph qfu qwa vgi vlo n).2.1) := ⟨_, rfl⟩
          rw [← hz4] at hP hD
          obtain ⟨z5, hz5⟩ : ∃ z : AR, z = ((X0_raiseAll qph qfu qwa vgi vlo n).2.2) := ⟨_, rfl⟩
          rw [← hz5] at hP hD
          have hP : va_P (dC, dI) vwCl (xW cI cZ h a qph qgr qne qap qle qfu qpc qgd qri qnw qtk qsv qwa z4 z5 qtu) H := hP
          have hD : va_D A (xW cI cZ h a qph qgr qne qap qle qfu qpc qgd qri qnw qtk qsv qwa z4 z5 qtu) := hD
          refine lv_istore_n (lv' := [(1, .int ((X0_raiseAll qph qfu qwa vgi vlo n).1)), (0, .ref h), (2, .int (nI k))]) hx hb dX0_shareFairly_18 rfl hl (by decide) rfl (fun ls hl => ?_)
          refine lv_iinc (v := (nI (k + 1))) (lv' := [(2, .int (nI (k + 1))), (1, .int ((X0_raiseAll qph qfu qwa vgi vlo n).1)), (0, .ref h)]) hx hb dX0_shareFairly_19 hl (k := 2) rfl (nI_1 k) (by decide) rfl (fun ls hl => ?_)
          refine lv_goto (tgt := 4) hx hb dX0_shareFairly_22 (by decide) ?_
          have hP9 := hP; have hD9 := hD; have hl9 := hl; have hR9 := hR; have ih9 := ih
          subst hz4 hz5
          exact ih9 (k + 1) ((X0_raiseAll qph qfu qwa vgi vlo n).1) ((X0_raiseAll qph qfu qwa vgi vlo n).2.1) ((X0_raiseAll qph qfu qwa vgi vlo n).2.2) (by omega) (by rw [← hR9, X0_shareFairly_L4, if_neg c5])  H locs ls hP9 hD9 hS (lv_sub hl9 [2, 1, 0] rfl)
    exact loop4 32 0 1 qgi qlo (by omega) rfl  H locs ls hP hD hS (lv_sub hl [2, 1, 0] rfl)
  exact hW _ _ hP hD hS
def X0_shareByLaxity_L4 (qph : AR) (qgr : AR) (qne : AR) (qap : AR) (qle : AR) (qnw : Int32) (qwa : AR) (n : Nat) : Nat → Nat → Nat → AR → Nat × AR
  | 0, k, w, vtu => (w, vtu)
  | j + 1, k, w, vtu => (if (qwa (nI k).toNatClampNeg) ≤ 0 then X0_shareByLaxity_L4 qph qgr qne qap qle qnw qwa n  j (k + 1) w vtu else X0_shareByLaxity_L4 qph qgr qne qap qle qnw qwa n  j (k + 1) (w + 1) ((X0_putIntoTurns qph qgr qne qap qle qnw vtu (nI k) w)))
def X0_shareByLaxity_L38 (qph : AR) (qgr : AR) (qne : AR) (qap : AR) (qle : AR) (qfu : AR) (qnw : Int32) (qwa : AR) (qtu : AR) (n : Nat) : Nat → Nat → AR → AR → AR × AR
  | 0, k, vgi, vlo => (vgi, vlo)
  | j + 1, k, vgi, vlo => X0_shareByLaxity_L38 qph qgr qne qap qle qfu qnw qwa qtu n  j (k + 1) ((X0_give qph vgi vlo (((X0_shareByLaxity_L4 qph qgr qne qap qle qnw qwa n  n 0 0 qtu).2) (nI k).toNatClampNeg) (if (X0_roomFor qph qfu vlo (((X0_shareByLaxity_L4 qph qgr qne qap qle qnw qwa n  n 0 0 qtu).2) (nI k).toNatClampNeg)) < (qwa (((X0_shareByLaxity_L4 qph qgr qne qap qle qnw qwa n  n 0 0 qtu).2) (nI k).toNatClampNeg).toNatClampNeg) then (X0_roomFor qph qfu vlo (((X0_shareByLaxity_L4 qph qgr qne qap qle qnw qwa n  n 0 0 qtu).2) (nI k).toNatClampNeg)) else (qwa (((X0_shareByLaxity_L4 qph qgr qne qap qle qnw qwa n  n 0 0 qtu).2) (nI k).toNatClampNeg).toNatClampNeg))).1) ((X0_give qph vgi vlo (((X0_shareByLaxity_L4 qph qgr qne qap qle qnw qwa n  n 0 0 qtu).2) (nI k).toNatClampNeg) (if (X0_roomFor qph qfu vlo (((X0_shareByLaxity_L4 qph qgr qne qap qle qnw qwa n  n 0 0 qtu).2) (nI k).toNatClampNeg)) < (qwa (((X0_shareByLaxity_L4 qph qgr qne qap qle qnw qwa n  n 0 0 qtu).2) (nI k).toNatClampNeg).toNatClampNeg) then (X0_roomFor qph qfu vlo (((X0_shareByLaxity_L4 qph qgr qne qap qle qnw qwa n  n 0 0 qtu).2) (nI k).toNatClampNeg)) else (qwa (((X0_shareByLaxity_L4 qph qgr qne qap qle qnw qwa n  n 0 0 qtu).2) (nI k).toNatClampNeg).toNatClampNeg))).2)
def X0_shareByLaxity (qph : AR) (qgr : AR) (qne : AR) (qap : AR) (qle : AR) (qfu : AR) (qnw : Int32) (qwa : AR) (qgi : AR) (qlo : AR) (qtu : AR) (n : Nat) : AR × AR × AR := (((X0_shareByLaxity_L38 qph qgr qne qap qle qfu qnw qwa qtu n  ((X0_shareByLaxity_L4 qph qgr qne qap qle qnw qwa n  n 0 0 qtu).1) 0 qgi qlo).1), ((X0_shareByLaxity_L38 qph qgr qne qap qle qfu qnw qwa qtu n  ((X0_shareByLaxity_L4 qph qgr qne qap qle qnw qwa n  n 0 0 qtu).1) 0 qgi qlo).2), ((X0_shareByLaxity_L4 qph qgr qne qap qle qnw qwa n  n 0 0 qtu).2))
abbrev rmX0_shareByLaxity : Room := { frames := 4, cells := 0, slots := 0, locals := 80 }
theorem hd_X0_shareByLaxity : yX0_shareByLaxity.cls = RX0 ∧ yX0_shareByLaxity.cls ≠ "java/lang/invoke/MethodHandle" ∧ yX0_shareByLaxity.cls ≠ "java/lang/invoke/VarHandle" ∧ (parseMethodDescriptor yX0_shareByLaxity.desc).map (fun d => d.parameters.length) = some 0 := by decide +kernel
theorem X0_shareByLaxity_inL (qph : AR) (qgr : AR) (qne : AR) (qap : AR) (qle : AR) (qnw : Int32) (qwa : AR) (n : Nat) (hn : n ≤ 8) : ∀ (j k w : Nat) (tu : AR), k + j = n → w ≤ k → (∀ q, q < w → vp_in (tu q) 8) → (X0_shareByLaxity_L4 qph qgr qne qap qle qnw qwa n j k w tu).1 ≤ n ∧ ∀ q, q < (X0_shareByLaxity_L4 qph qgr qne qap qle qnw qwa n j k w tu).1 → vp_in ((X0_shareByLaxity_L4 qph qgr qne qap qle qnw qwa n j k w tu).2 q) 8 := by
  intro j
  induction j with
  | zero => intro k w tu hk hw h; rw [X0_shareByLaxity_L4]; exact ⟨by show w ≤ n; omega, h⟩
  | succ j ih =>
    intro k w tu hk hw h
    rw [X0_shareByLaxity_L4]
    split
    · exact ih _ _ _ (by omega) (by omega) h
    · exact ih _ _ _ (by omega) (by omega) (X0_putIntoTurns_in _ _ _ _ _ _ tu (nI k) w (vp_in_nI (by omega) (by decide)) (by omega) h)
set_option maxHeartbeats 4000000 in
set_option maxRecDepth 100000 in
theorem c_X0_shareByLaxity (l : Launch) (dC : Nat → ClassId) (dI : Nat → Nat → Nat) (cI cZ : ClassId) (h : Nat) (a : Nat → Nat) (qph : AR) (qgr : AR) (qne : AR) (qap : AR) (qle : AR) (qfu : AR) (qpc : Int32) (qgd : Int32) (qri : Int32) (qnw : Int32) (qtk : Int32) (qsv : Int32) (qwa : AR) (qgi : AR) (qlo : AR) (qtu : AR) (n : Nat) (hpc : qpc = nI n) (hn : n ≤ 8) : Kv l yX0_shareByLaxity wsX0_shareByLaxity rmX0_shareByLaxity dC dI cI cZ [.ref h] (xW cI cZ h a qph qgr qne qap qle qfu qpc qgd qri qnw qtk qsv qwa qgi qlo qtu) (xW cI cZ h a qph qgr qne qap qle qfu qpc qgd qri qnw qtk qsv qwa ((X0_shareByLaxity qph qgr qne qap qle qfu qnw qwa qgi qlo qtu n).1) ((X0_shareByLaxity qph qgr qne qap qle qfu qnw qwa qgi qlo qtu n).2.1) ((X0_shareByLaxity qph qgr qne qap qle qfu qnw qwa qgi qlo qtu n).2.2)) := by
  refine k_enter_v (cc := cX0_shareByLaxity) (maxL := 4) (ret := none) (by decide) rfl (Nat.le_of_ble_eq_true rfl) ?_
  intro p e s m below meth c A ls hC hr hlocks hK hP hD hS hA hl
  generalize List.toArray _ = args at hC ⊢
  obtain ⟨hx, hb, hml, hown, hts⟩ := id hC
  have hret : ∀ (H : Heap) (locs : List Loc) (pc : Nat) (ls : Array Slot), va_S A s.heap H locs → va_P (dC, dI) vwCl (xW cI cZ h a qph qgr qne qap qle qfu qpc qgd qri qnw qtk qsv qwa ((X0_shareByLaxity qph qgr qne qap qle qfu qnw qwa qgi qlo qtu n).1) ((X0_shareByLaxity qph qgr qne qap qle qfu qnw qwa qgi qlo qtu n).2.1) ((X0_shareByLaxity qph qgr qne qap qle qfu qnw qwa qgi qlo qtu n).2.2)) H → va_D A (xW cI cZ h a qph qgr qne qap qle qfu qpc qgd qri qnw qtk qsv qwa ((X0_shareByLaxity qph qgr qne qap qle qfu qnw qwa qgi qlo qtu n).1) ((X0_shareByLaxity qph qgr qne qap qle qfu qnw qwa qgi qlo qtu n).2.1) ((X0_shareByLaxity qph qgr qne qap qle qfu qnw qwa qgi qlo qtu n).2.2)) → decode cX0_shareByLaxity pc = .ok (.return_, 1) → W p l e rmX0_shareByLaxity s m args below meth c H locs 0 0 (MQ below (va_Qv (fun (_ : Unit) => True) (kBeh dC dI A (xW cI cZ h a qph qgr qne qap qle qfu qpc qgd qri qnw qtk qsv qwa ((X0_shareByLaxity qph qgr qne qap qle qfu qnw qwa qgi qlo qtu n).1) ((X0_shareByLaxity qph qgr qne qap qle qfu qnw qwa qgi qlo qtu n).2.1) ((X0_shareByLaxity qph qgr qne qap qle qfu qnw qwa qgi qlo qtu n).2.2))) A) args s 0 0 A) (F0 m pc ls []) := fun H locs pc ls hS hP hD d => k_vret hx hb hr hlocks hS hP hD d
  generalize MQ below _ _ _ _ _ _ = Q at hret ⊢
  have hin : ∀ w ∈ wsX00, w ∈ wsX0_shareByLaxity := by decide +kernel
  have hw0 := hts (.fieldLink RX0 31 "ChargePark" "turns" "[I") (by decide +kernel)
  have hw1 := hts (.fieldLink RX0 25 "ChargePark" "wanted" "[I") (by decide +kernel)
  have hw2 := hts (.methodLink RX0 132 Lib.Math.min.name) (by decide +kernel)
  have hw3 := hts (.static Lib.Math.min.name) (by decide +kernel)
  have hw4 := hts (.initialized "java/lang/Math") (by decide +kernel)
  have hw5 := hts (.code Lib.Math.min.name Lib.Math.min.code 2 (some .int)) (by decide +kernel)
  have hw6 := hts (.fieldLink RX0 55 "ChargePark" "pointCount" "I") (by decide +kernel)
  have hl : lv_has ls 4 [(0, .ref h)] := hl
  have hP : va_P (dC, dI) vwCl (xW cI cZ h a qph qgr qne qap qle qfu qpc qgd qri qnw qtk qsv qwa qgi qlo qtu) s.heap := hP
  have hW : ∀ (H : Heap) (locs : List Loc), va_P (dC, dI) vwCl (xW cI cZ h a qph qgr qne qap qle qfu qpc qgd qri qnw qtk qsv qwa qgi qlo qtu) H → va_D A (xW cI cZ h a qph qgr qne qap qle qfu qpc qgd qri qnw qtk qsv qwa qgi qlo qtu) → va_S A s.heap H locs → W p l e rmX0_shareByLaxity s m args below meth c H locs 0 0 Q (F0 m 0 ls []) := by
    intro H locs hP hD hS
    refine lv_iconst (v := 0) hx hb dX0_shareByLaxity_0 (by decide) ?_
    refine lv_istore_n (lv' := [(1, .int 0), (0, .ref h)]) hx hb dX0_shareByLaxity_1 rfl hl (by decide) rfl (fun ls hl => ?_)
    refine lv_iconst (v := 0) hx hb dX0_shareByLaxity_2 (by decide) ?_
    refine lv_istore_n (lv' := [(2, .int 0), (1, .int 0), (0, .ref h)]) hx hb dX0_shareByLaxity_3 rfl hl (by decide) rfl (fun ls hl => ?_)
    have cont4 : ∀ (z1 : Nat), z1 = (X0_shareByLaxity_L4 qph qgr qne qap qle qnw qwa n  n 0 0 qtu).1 → ∀ (z2 : AR), z2 = (X0_shareByLaxity_L4 qph qgr qne qap qle qnw qwa n  n 0 0 qtu).2 → ∀ (H : Heap) (locs : List Loc) (ls : Array Slot), va_P (dC, dI) vwCl (xW cI cZ h a qph qgr qne qap qle qfu qpc qgd qri qnw qtk qsv qwa qgi qlo z2) H → va_D A (xW cI cZ h a qph qgr qne qap qle qfu qpc qgd qri qnw qtk qsv qwa qgi qlo z2) → va_S A s.heap H locs → lv_has ls 4 [(0, .ref h), (1, .int (nI z1))] → W p l e rmX0_shareByLaxity s m args below meth c H locs 0 0 Q (F0 m 36 ls []) := by
      intro z1 hz1 z2 hz2 H locs ls hP hD hS hl
      refine lv_iconst (v := 0) hx hb dX0_shareByLaxity_36 (by decide) ?_
      refine lv_istore_n (lv' := [(2, .int 0), (0, .ref h), (1, .int (nI z1))]) hx hb dX0_shareByLaxity_37 rfl hl (by decide) rfl (fun ls hl => ?_)
      have cont38 : ∀ (z3 : AR), z3 = (X0_shareByLaxity_L38 qph qgr qne qap qle qfu qnw qwa qtu n  z1 0 qgi qlo).1 → ∀ (z4 : AR), z4 = (X0_shareByLaxity_L38 qph qgr qne qap qle qfu qnw qwa qtu n  z1 0 qgi qlo).2 → ∀ (H : Heap) (locs : List Loc) (ls : Array Slot), va_P (dC, dI) vwCl (xW cI cZ h a qph qgr qne qap qle qfu qpc qgd qri qnw qtk qsv qwa z3 z4 z2) H → va_D A (xW cI cZ h a qph qgr qne qap qle qfu qpc qgd qri qnw qtk qsv qwa z3 z4 z2) → va_S A s.heap H locs → lv_has ls 4 [(0, .ref h), (1, .int (nI z1))] → W p l e rmX0_shareByLaxity s m args below meth c H locs 0 0 Q (F0 m 75 ls []) := by
        intro z3 hz3 z4 hz4 H locs ls hP hD hS hl
        have hP9 := hP; have hD9 := hD
        subst hz1 hz2 hz3 hz4
        have hP8 : va_P (dC, dI) vwCl (xW cI cZ h a qph qgr qne qap qle qfu qpc qgd qri qnw qtk qsv qwa ((X0_shareByLaxity qph qgr qne qap qle qfu qnw qwa qgi qlo qtu n).1) ((X0_shareByLaxity qph qgr qne qap qle qfu qnw qwa qgi qlo qtu n).2.1) ((X0_shareByLaxity qph qgr qne qap qle qfu qnw qwa qgi qlo qtu n).2.2)) H := by rw [X0_shareByLaxity]; exact hP9
        have hD8 : va_D A (xW cI cZ h a qph qgr qne qap qle qfu qpc qgd qri qnw qtk qsv qwa ((X0_shareByLaxity qph qgr qne qap qle qfu qnw qwa qgi qlo qtu n).1) ((X0_shareByLaxity qph qgr qne qap qle qfu qnw qwa qgi qlo qtu n).2.1) ((X0_shareByLaxity qph qgr qne qap qle qfu qnw qwa qgi qlo qtu n).2.2)) := by rw [X0_shareByLaxity]; exact hD9
        exact hret H locs 75 ls hS hP8 hD8 dX0_shareByLaxity_75
      obtain ⟨hW1, hT1⟩ := X0_shareByLaxity_inL qph qgr qne qap qle qnw qwa n hn n 0 0 qtu (by omega) (Nat.le_refl 0) (fun q h => absurd h (Nat.not_lt_zero q))
      rw [← hz1, ← hz2] at hT1
      rw [← hz1] at hW1
      have loop38 : ∀ (j k : Nat) (vgi : AR) (vlo : AR), k + j = z1 → X0_shareByLaxity_L38 qph qgr qne qap qle qfu qnw qwa qtu n  j k vgi vlo = (X0_shareByLaxity_L38 qph qgr qne qap qle qfu qnw qwa qtu n  z1 0 qgi qlo) → ∀ (H : Heap) (locs : List Loc) (ls : Array Slot), va_P (dC, dI) vwCl (xW cI cZ h a qph qgr qne qap qle qfu qpc qgd qri qnw qtk qsv qwa vgi vlo z2) H → va_D A (xW cI cZ h a qph qgr qne qap qle qfu qpc qgd qri qnw qtk qsv qwa vgi vlo z2) → va_S A s.heap H locs → lv_has ls 4 [(0, .ref h), (1, .int (nI z1)), (2, .int (nI k))] → W p l e rmX0_shareByLaxity s m args below meth c H locs 0 0 Q (F0 m 38 ls []) := by
        intro j
        induction j with
        | zero =>
          intro k vgi vlo hk hR  H locs ls hP hD hS hl
          refine lv_iload_n hx hb dX0_shareByLaxity_38 rfl (lv_at hl 2 rfl) ?_
          refine lv_iload_n hx hb dX0_shareByLaxity_39 rfl (lv_at hl 1 rfl) ?_
          refine lv_icmp_ge (tgt := 75) hx hb dX0_shareByLaxity_40 (by decide) (fun _ => ?_) (fun c => absurd (by exact nI_le (by omega) (by omega)) c)
          have hP9 := hP; have hD9 := hD; have hl9 := hl; have hR9 := hR
          subst hz1 hz2
          exact cont38 vgi (by rw [← hR9, X0_shareByLaxity_L38]) vlo (by rw [← hR9, X0_shareByLaxity_L38]) H locs ls hP9 hD9 hS (lv_sub hl9 [0, 1] rfl)
        | succ j ih =>
          intro k vgi vlo hk hR  H locs ls hP hD hS hl
          refine lv_iload_n hx hb dX0_shareByLaxity_38 rfl (lv_at hl 2 rfl) ?_
          refine lv_iload_n hx hb dX0_shareByLaxity_39 rfl (lv_at hl 1 rfl) ?_
          refine lv_icmp_ge (tgt := 75) hx hb dX0_shareByLaxity_40 (by decide) (fun c => absurd c (by exact nI_ge (by omega) (by omega))) (fun _ => ?_)
          refine lv_aload_n hx hb dX0_shareByLaxity_43 rfl (lv_at hl 0 rfl) ?_
          refine va_get (D := (dC, dI)) (ci := 0) (v := .ref (a 15)) (C := RX0) (T := TX0) (N := 16) hx hb hts hin hown hK hP 0 rfl rfl 15 (by decide) hw0 (fun _ h9 => h9) rfl dX0_shareByLaxity_44 ?_
          refine lv_iload_n hx hb dX0_shareByLaxity_47 rfl (lv_at hl 2 rfl) ?_
          refine va_iald (f := z2) hx hb hK hP 10 0 rfl rfl (vp_in_nI (by omega) (by decide)) dX0_shareByLaxity_48 ?_
          refine lv_istore_n (lv' := [(3, .int (z2 (nI k).toNatClampNeg)), (0, .ref h), (1, .int (nI z1)), (2, .int (nI k))]) hx hb dX0_shareByLaxity_49 rfl hl (by decide) rfl (fun ls hl => ?_)
          refine lv_aload_n hx hb dX0_shareByLaxity_50 rfl (lv_at hl 1 rfl) ?_
          refine lv_iload_n hx hb dX0_shareByLaxity_51 rfl (lv_at hl 0 rfl) ?_
          refine lv_aload_n hx hb dX0_shareByLaxity_52 rfl (lv_at hl 1 rfl) ?_
          refine va_get (D := (dC, dI)) (ci := 0) (v := .ref (a 12)) (C := RX0) (T := TX0) (N := 16) hx hb hts hin hown hK hP 0 rfl rfl 12 (by decide) hw1 (fun _ h9 => h9) rfl dX0_shareByLaxity_53 ?_
          refine lv_iload_n hx hb dX0_shareByLaxity_56 rfl (lv_at hl 0 rfl) ?_
          refine va_iald (f := qwa) hx hb hK hP 7 0 rfl rfl (hT1 _ (by rw [nI_clamp (by omega)]; omega)) dX0_shareByLaxity_57 ?_
          refine lv_aload_n hx hb dX0_shareByLaxity_58 rfl (lv_at hl 1 rfl) ?_
          refine lv_iload_n hx hb dX0_shareByLaxity_59 rfl (lv_at hl 0 rfl) ?_
          refine k_calli (rest := [.int (qwa (z2 (nI k).toNatClampNeg).toNatClampNeg), .int (z2 (nI k).toNatClampNeg), .ref h]) (q0 := 0) hC (c_X0_roomFor l dC dI cI cZ h a qph qgr qne qap qle qfu qpc qgd qri qnw qtk qsv qwa vgi vlo z2  (z2 (nI k).toNatClampNeg) (hT1 _ (by rw [nI_clamp (by omega)]; omega))) (cwV 1 hts gX0_shareByLaxity_X0_roomFor rfl rfl rfl hd_X0_roomFor ⟨Nat.le_of_ble_eq_true rfl, Nat.le_of_ble_eq_true rfl⟩) hK hP hD hS hA rfl rfl rfl hl.1 (Nat.le_of_ble_eq_true rfl) dX0_shareByLaxity_60 rfl ⟨Nat.zero_le _, Nat.zero_le _⟩ (fun H locs hP hD hS => ?_)
          refine va_mmin hx hb (hml.trans hl.1.symm) hown hw2 hw3 hw4 hw5 (Nat.le_of_ble_eq_true rfl) (Nat.le_of_ble_eq_true rfl) (Nat.zero_le _) (Nat.zero_le _) dX0_shareByLaxity_63 ?_
          refine k_callv (rest := []) (q0 := 0) hC (c_X0_give l dC dI cI cZ h a qph qgr qne qap qle qfu qpc qgd qri qnw qtk qsv qwa vgi vlo z2  (z2 (nI k).toNatClampNeg) (if (X0_roomFor qph qfu vlo (z2 (nI k).toNatClampNeg)) < (qwa (z2 (nI k).toNatClampNeg).toNatClampNeg) then (X0_roomFor qph qfu vlo (z2 (nI k).toNatClampNeg)) else (qwa (z2 (nI k).toNatClampNeg).toNatClampNeg)) (hT1 _ (by rw [nI_clamp (by omega)]; omega))) (cwV 2 hts gX0_shareByLaxity_X0_give rfl rfl rfl hd_X0_give ⟨Nat.le_of_ble_eq_true rfl, Nat.le_of_ble_eq_true rfl⟩) hK hP hD hS hA rfl rfl rfl hl.1 (Nat.le_of_ble_eq_true rfl) dX0_shareByLaxity_66 rfl ⟨Nat.zero_le _, Nat.zero_le _⟩ (fun H locs hP hD hS => ?_)
          obtain ⟨z5, hz5⟩ : ∃ z : AR, z = ((X0_give qph vgi vlo (z2 (nI k).toNatClampNeg) (if (X0_roomFor qph qfu vlo (z2 (nI k).toNatClampNeg)) < (qwa (z2 (nI k).toNatClampNeg).toNatClampNeg) then (X0_roomFor qph qfu vlo (z2 (nI k).toNatClampNeg)) else (qwa (z2 (nI k).toNatClampNeg).toNatClampNeg))).1) := ⟨_, rfl⟩
          rw [← hz5] at hP hD
          obtain ⟨z6, hz6⟩ : ∃ z : AR, z = ((X0_give qph vgi vlo (z2 (nI k).toNatClampNeg) (if (X0_roomFor qph qfu vlo (z2 (nI k).toNatClampNeg)) < (qwa (z2 (nI k).toNatClampNeg).toNatClampNeg) then (X0_roomFor qph qfu vlo (z2 (nI k).toNatClampNeg)) else (qwa (z2 (nI k).toNatClampNeg).toNatClampNeg))).2) := ⟨_, rfl⟩
          rw [← hz6] at hP hD
          have hP : va_P (dC, dI) vwCl (xW cI cZ h a qph qgr qne qap qle qfu qpc qgd qri qnw qtk qsv qwa z5 z6 z2) H := hP
          have hD : va_D A (xW cI cZ h a qph qgr qne qap qle qfu qpc qgd qri qnw qtk qsv qwa z5 z6 z2) := hD
          refine lv_iinc (v := (nI (k + 1))) (lv' := [(2, .int (nI (k + 1))), (3, .int (z2 (nI k).toNatClampNeg)), (0, .ref h), (1, .int (nI z1))]) hx hb dX0_shareByLaxity_69 hl (k := 3) rfl (nI_1 k) (by decide) rfl (fun ls hl => ?_)
          refine lv_goto (tgt := 38) hx hb dX0_shareByLaxity_72 (by decide) ?_
          have hP9 := hP; have hD9 := hD; have hl9 := hl; have hR9 := hR; have ih9 := ih
          subst hz1 hz2 hz5 hz6
          exact ih9 (k + 1) ((X0_give qph vgi vlo (((X0_shareByLaxity_L4 qph qgr qne qap qle qnw qwa n  n 0 0 qtu).2) (nI k).toNatClampNeg) (if (X0_roomFor qph qfu vlo (((X0_shareByLaxity_L4 qph qgr qne qap qle qnw qwa n  n 0 0 qtu).2) (nI k).toNatClampNeg)) < (qwa (((X0_shareByLaxity_L4 qph qgr qne qap qle qnw qwa n  n 0 0 qtu).2) (nI k).toNatClampNeg).toNatClampNeg) then (X0_roomFor qph qfu vlo (((X0_shareByLaxity_L4 qph qgr qne qap qle qnw qwa n  n 0 0 qtu).2) (nI k).toNatClampNeg)) else (qwa (((X0_shareByLaxity_L4 qph qgr qne qap qle qnw qwa n  n 0 0 qtu).2) (nI k).toNatClampNeg).toNatClampNeg))).1) ((X0_give qph vgi vlo (((X0_shareByLaxity_L4 qph qgr qne qap qle qnw qwa n  n 0 0 qtu).2) (nI k).toNatClampNeg) (if (X0_roomFor qph qfu vlo (((X0_shareByLaxity_L4 qph qgr qne qap qle qnw qwa n  n 0 0 qtu).2) (nI k).toNatClampNeg)) < (qwa (((X0_shareByLaxity_L4 qph qgr qne qap qle qnw qwa n  n 0 0 qtu).2) (nI k).toNatClampNeg).toNatClampNeg) then (X0_roomFor qph qfu vlo (((X0_shareByLaxity_L4 qph qgr qne qap qle qnw qwa n  n 0 0 qtu).2) (nI k).toNatClampNeg)) else (qwa (((X0_shareByLaxity_L4 qph qgr qne qap qle qnw qwa n  n 0 0 qtu).2) (nI k).toNatClampNeg).toNatClampNeg))).2) (by omega) (by rw [← hR9, X0_shareByLaxity_L38])  H locs ls hP9 hD9 hS (lv_sub hl9 [2, 3, 0] rfl)
      exact loop38 z1 0 qgi qlo (by omega) rfl  H locs ls hP hD hS (lv_sub hl [1, 2, 0] rfl)
    have loop4 : ∀ (j k : Nat) (w : Nat) (vtu : AR), k + j = n → X0_shareByLaxity_L4 qph qgr qne qap qle qnw qwa n  j k w vtu = (X0_shareByLaxity_L4 qph qgr qne qap qle qnw qwa n  n 0 0 qtu) → (w ≤ k) → (∀ q, q < w → vp_in (vtu q) 8) → ∀ (H : Heap) (locs : List Loc) (ls : Array Slot), va_P (dC, dI) vwCl (xW cI cZ h a qph qgr qne qap qle qfu qpc qgd qri qnw qtk qsv qwa qgi qlo vtu) H → va_D A (xW cI cZ h a qph qgr qne qap qle qfu qpc qgd qri qnw qtk qsv qwa qgi qlo vtu) → va_S A s.heap H locs → lv_has ls 4 [(0, .ref h), (1, .int (nI w)), (2, .int (nI k))] → W p l e rmX0_shareByLaxity s m args below meth c H locs 0 0 Q (F0 m 4 ls []) := by
      intro j
      induction j with
      | zero =>
        intro k w vtu hk hR hwk hv H locs ls hP hD hS hl
        refine lv_iload_n hx hb dX0_shareByLaxity_4 rfl (lv_at hl 2 rfl) ?_
        refine lv_aload_n hx hb dX0_shareByLaxity_5 rfl (lv_at hl 0 rfl) ?_
        refine va_get (D := (dC, dI)) (ci := 0) (v := .int qpc) (C := RX0) (T := TX0) (N := 16) hx hb hts hin hown hK hP 0 rfl rfl 6 (by decide) hw6 (fun _ h9 => h9) rfl dX0_shareByLaxity_6 ?_
        refine lv_icmp_ge (tgt := 36) hx hb dX0_shareByLaxity_9 (by decide) (fun _ => ?_) (fun c => absurd (by rw [hpc]; exact nI_le (by omega) (by omega)) c)
        exact cont4 w (by rw [← hR, X0_shareByLaxity_L4]) vtu (by rw [← hR, X0_shareByLaxity_L4]) H locs ls hP hD hS (lv_sub hl [0, 1] rfl)
      | succ j ih =>
        intro k w vtu hk hR hwk hv H locs ls hP hD hS hl
        refine lv_iload_n hx hb dX0_shareByLaxity_4 rfl (lv_at hl 2 rfl) ?_
        refine lv_aload_n hx hb dX0_shareByLaxity_5 rfl (lv_at hl 0 rfl) ?_
        refine va_get (D := (dC, dI)) (ci := 0) (v := .int qpc) (C := RX0) (T := TX0) (N := 16) hx hb hts hin hown hK hP 0 rfl rfl 6 (by decide) hw6 (fun _ h9 => h9) rfl dX0_shareByLaxity_6 ?_
        refine lv_icmp_ge (tgt := 36) hx hb dX0_shareByLaxity_9 (by decide) (fun c => absurd c (by rw [hpc]; exact nI_ge (by omega) (by omega))) (fun _ => ?_)
        refine lv_aload_n hx hb dX0_shareByLaxity_12 rfl (lv_at hl 0 rfl) ?_
        refine va_get (D := (dC, dI)) (ci := 0) (v := .ref (a 12)) (C := RX0) (T := TX0) (N := 16) hx hb hts hin hown hK hP 0 rfl rfl 12 (by decide) hw1 (fun _ h9 => h9) rfl dX0_shareByLaxity_13 ?_
        refine lv_iload_n hx hb dX0_shareByLaxity_16 rfl (lv_at hl 2 rfl) ?_
        refine va_iald (f := qwa) hx hb hK hP 7 0 rfl rfl (vp_in_nI (by omega) (by decide)) dX0_shareByLaxity_17 ?_
        refine lv_if_le (tgt := 30) hx hb dX0_shareByLaxity_18 (by decide) (fun c18 => ?_) (fun c18 => ?_)
        · refine lv_iinc (v := (nI (k + 1))) (lv' := [(2, .int (nI (k + 1))), (0, .ref h), (1, .int (nI w))]) hx hb dX0_shareByLaxity_30 hl (k := 2) rfl (nI_1 k) (by decide) rfl (fun ls hl => ?_)
          refine lv_goto (tgt := 4) hx hb dX0_shareByLaxity_33 (by decide) ?_
          exact ih (k + 1) w vtu (by omega) (by rw [← hR, X0_shareByLaxity_L4, if_pos c18]) (by omega) (by first | exact hv | exact X0_putIntoTurns_in _ _ _ _ _ _ vtu (nI k) w (vp_in_nI (by omega) (by decide)) (by omega) hv) H locs ls hP hD hS (lv_sub hl [1, 2, 0] rfl)
        · refine lv_aload_n hx hb dX0_shareByLaxity_21 rfl (lv_at hl 0 rfl) ?_
          refine lv_iload_n hx hb dX0_shareByLaxity_22 rfl (lv_at hl 2 rfl) ?_
          refine lv_iload_n hx hb dX0_shareByLaxity_23 rfl (lv_at hl 1 rfl) ?_
          refine k_callv (rest := []) (q0 := 0) hC (c_X0_putIntoTurns l dC dI cI cZ h a qph qgr qne qap qle qfu qpc qgd qri qnw qtk qsv qwa qgi qlo vtu  (nI k) w (vp_in_nI (by omega) (by decide)) (by omega) hv) (cwV 2 hts gX0_shareByLaxity_X0_putIntoTurns rfl rfl rfl hd_X0_putIntoTurns ⟨Nat.le_of_ble_eq_true rfl, Nat.le_of_ble_eq_true rfl⟩) hK hP hD hS hA rfl rfl rfl hl.1 (Nat.le_of_ble_eq_true rfl) dX0_shareByLaxity_24 rfl ⟨Nat.zero_le _, Nat.zero_le _⟩ (fun H locs hP hD hS => ?_)
          obtain ⟨z7, hz7⟩ : ∃ z : AR, z = ((X0_putIntoTurns qph qgr qne qap qle qnw vtu (nI k) w)) := ⟨_, rfl⟩
          rw [← hz7] at hP hD
          have hP : va_P (dC, dI) vwCl (xW cI cZ h a qph qgr qne qap qle qfu qpc qgd qri qnw qtk qsv qwa qgi qlo z7) H := hP
          have hD : va_D A (xW cI cZ h a qph qgr qne qap qle qfu qpc qgd qri qnw qtk qsv qwa qgi qlo z7) := hD
          refine lv_iinc (v := (nI (w + 1))) (lv' := [(1, .int (nI (w + 1))), (0, .ref h), (2, .int (nI k))]) hx hb dX0_shareByLaxity_27 hl (k := 1) rfl (nI_1 w) (by decide) rfl (fun ls hl => ?_)
          refine lv_iinc (v := (nI (k + 1))) (lv' := [(2, .int (nI (k + 1))), (1, .int (nI (w + 1))), (0, .ref h)]) hx hb dX0_shareByLaxity_30 hl (k := 2) rfl (nI_1 k) (by decide) rfl (fun ls hl => ?_)
          refine lv_goto (tgt := 4) hx hb dX0_shareByLaxity_33 (by decide) ?_
          have hP9 := hP; have hD9 := hD; have hl9 := hl; have hR9 := hR; have ih9 := ih
          subst hz7
          exact ih9 (k + 1) (w + 1) ((X0_putIntoTurns qph qgr qne qap qle qnw vtu (nI k) w)) (by omega) (by rw [← hR9, X0_shareByLaxity_L4, if_neg c18]) (by omega) (by first | exact hv | exact X0_putIntoTurns_in _ _ _ _ _ _ vtu (nI k) w (vp_in_nI (by omega) (by decide)) (by omega) hv) H locs ls hP9 hD9 hS (lv_sub hl9 [2, 1, 0] rfl)
    exact loop4 n 0 0 qtu (by omega) rfl (Nat.le_refl 0) (fun q h => absurd h (Nat.not_lt_zero q)) H locs ls hP hD hS (lv_sub hl [2, 1, 0] rfl)
  exact hW _ _ hP hD hS
def X0_keepBalance_L2 (qph : AR) (qgd : Int32) (n : Nat) : Nat → Nat → AR → AR → AR × AR
  | 0, k, vgi, vlo => (vgi, vlo)
  | j + 1, k, vgi, vlo => (if qgd < (X0_differenceOfLoads vlo) then (if (X0_mostGivenAloneAt qph vgi n (X0_phaseOfGreatestLoad vlo)) = (-1) then (vgi, vlo) else X0_keepBalance_L2 qph qgd n  j (k + 1) ((X0_give qph vgi vlo (X0_mostGivenAloneAt qph vgi n (X0_phaseOfGreatestLoad vlo)) (-1)).1) ((X0_give qph vgi vlo (X0_mostGivenAloneAt qph vgi n (X0_phaseOfGreatestLoad vlo)) (-1)).2)) else (vgi, vlo))
def X0_keepBalance (qph : AR) (qgd : Int32) (qgi : AR) (qlo : AR) (n : Nat) : AR × AR := (X0_keepBalance_L2 qph qgd n  256 0 qgi qlo)
abbrev rmX0_keepBalance : Room := { frames := 2, cells := 0, slots := 0, locals := 45 }
theorem hd_X0_keepBalance : yX0_keepBalance.cls = RX0 ∧ yX0_keepBalance.cls ≠ "java/lang/invoke/MethodHandle" ∧ yX0_keepBalance.cls ≠ "java/lang/invoke/VarHandle" ∧ (parseMethodDescriptor yX0_keepBalance.desc).map (fun d => d.parameters.length) = some 0 := by decide +kernel
set_option maxHeartbeats 4000000 in
set_option maxRecDepth 100000 in
theorem c_X0_keepBalance (l : Launch) (dC : Nat → ClassId) (dI : Nat → Nat → Nat) (cI cZ : ClassId) (h : Nat) (a : Nat → Nat) (qph : AR) (qgr : AR) (qne : AR) (qap : AR) (qle : AR) (qfu : AR) (qpc : Int32) (qgd : Int32) (qri : Int32) (qnw : Int32) (qtk : Int32) (qsv : Int32) (qwa : AR) (qgi : AR) (qlo : AR) (qtu : AR) (n : Nat) (hpc : qpc = nI n) (hn : n ≤ 8) : Kv l yX0_keepBalance wsX0_keepBalance rmX0_keepBalance dC dI cI cZ [.ref h] (xW cI cZ h a qph qgr qne qap qle qfu qpc qgd qri qnw qtk qsv qwa qgi qlo qtu) (xW cI cZ h a qph qgr qne qap qle qfu qpc qgd qri qnw qtk qsv qwa ((X0_keepBalance qph qgd qgi qlo n).1) ((X0_keepBalance qph qgd qgi qlo n).2) qtu) := by
  refine k_enter_v (cc := cX0_keepBalance) (maxL := 3) (ret := none) (by decide) rfl (Nat.le_of_ble_eq_true rfl) ?_
  intro p e s m below meth c A ls hC hr hlocks hK hP hD hS hA hl
  generalize List.toArray _ = args at hC ⊢
  obtain ⟨hx, hb, hml, hown, hts⟩ := id hC
  have hret : ∀ (H : Heap) (locs : List Loc) (pc : Nat) (ls : Array Slot), va_S A s.heap H locs → va_P (dC, dI) vwCl (xW cI cZ h a qph qgr qne qap qle qfu qpc qgd qri qnw qtk qsv qwa ((X0_keepBalance qph qgd qgi qlo n).1) ((X0_keepBalance qph qgd qgi qlo n).2) qtu) H → va_D A (xW cI cZ h a qph qgr qne qap qle qfu qpc qgd qri qnw qtk qsv qwa ((X0_keepBalance qph qgd qgi qlo n).1) ((X0_keepBalance qph qgd qgi qlo n).2) qtu) → decode cX0_keepBalance pc = .ok (.return_, 1) → W p l e rmX0_keepBalance s m args below meth c H locs 0 0 (MQ below (va_Qv (fun (_ : Unit) => True) (kBeh dC dI A (xW cI cZ h a qph qgr qne qap qle qfu qpc qgd qri qnw qtk qsv qwa ((X0_keepBalance qph qgd qgi qlo n).1) ((X0_keepBalance qph qgd qgi qlo n).2) qtu)) A) args s 0 0 A) (F0 m pc ls []) := fun H locs pc ls hS hP hD d => k_vret hx hb hr hlocks hS hP hD d
  generalize MQ below _ _ _ _ _ _ = Q at hret ⊢
  have hin : ∀ w ∈ wsX00, w ∈ wsX0_keepBalance := by decide +kernel
  have hw0 := hts (.fieldLink RX0 40 "ChargePark" "greatestDifference" "I") (by decide +kernel)
  have hl : lv_has ls 3 [(0, .ref h)] := hl
  have hP : va_P (dC, dI) vwCl (xW cI cZ h a qph qgr qne qap qle qfu qpc qgd qri qnw qtk qsv qwa qgi qlo qtu) s.heap := hP
  have hW : ∀ (H : Heap) (locs : List Loc), va_P (dC, dI) vwCl (xW cI cZ h a qph qgr qne qap qle qfu qpc qgd qri qnw qtk qsv qwa qgi qlo qtu) H → va_D A (xW cI cZ h a qph qgr qne qap qle qfu qpc qgd qri qnw qtk qsv qwa qgi qlo qtu) → va_S A s.heap H locs → W p l e rmX0_keepBalance s m args below meth c H locs 0 0 Q (F0 m 0 ls []) := by
    intro H locs hP hD hS
    refine lv_iconst (v := 0) hx hb dX0_keepBalance_0 (by decide) ?_
    refine lv_istore_n (lv' := [(1, .int 0), (0, .ref h)]) hx hb dX0_keepBalance_1 rfl hl (by decide) rfl (fun ls hl => ?_)
    have loop2 : ∀ (j k : Nat) (vgi : AR) (vlo : AR), k + j = 256 → X0_keepBalance_L2 qph qgd n  j k vgi vlo = (X0_keepBalance qph qgd qgi qlo n) → ∀ (H : Heap) (locs : List Loc) (ls : Array Slot), va_P (dC, dI) vwCl (xW cI cZ h a qph qgr qne qap qle qfu qpc qgd qri qnw qtk qsv qwa vgi vlo qtu) H → va_D A (xW cI cZ h a qph qgr qne qap qle qfu qpc qgd qri qnw qtk qsv qwa vgi vlo qtu) → va_S A s.heap H locs → lv_has ls 3 [(0, .ref h), (1, .int (nI k))] → W p l e rmX0_keepBalance s m args below meth c H locs 0 0 Q (F0 m 2 ls []) := by
      intro j
      induction j with
      | zero =>
        intro k vgi vlo hk hR  H locs ls hP hD hS hl
        refine lv_iload_n hx hb dX0_keepBalance_2 rfl (lv_at hl 1 rfl) ?_
        refine lv_sipush (v := 256) hx hb dX0_keepBalance_3 (by decide) ?_
        refine lv_icmp_ge (tgt := 48) hx hb dX0_keepBalance_6 (by decide) (fun _ => ?_) (fun c => absurd (by rw [nIl256]; exact nI_le (by omega) (by omega)) c)
        have hP8 : va_P (dC, dI) vwCl (xW cI cZ h a qph qgr qne qap qle qfu qpc qgd qri qnw qtk qsv qwa ((X0_keepBalance qph qgd qgi qlo n).1) ((X0_keepBalance qph qgd qgi qlo n).2) qtu) H := by rw [← hR, X0_keepBalance_L2]; exact hP
        have hD8 : va_D A (xW cI cZ h a qph qgr qne qap qle qfu qpc qgd qri qnw qtk qsv qwa ((X0_keepBalance qph qgd qgi qlo n).1) ((X0_keepBalance qph qgd qgi qlo n).2) qtu) := by rw [← hR, X0_keepBalance_L2]; exact hD
        exact hret H locs 48 ls hS hP8 hD8 dX0_keepBalance_48
      | succ j ih =>
        intro k vgi vlo hk hR  H locs ls hP hD hS hl
        refine lv_iload_n hx hb dX0_keepBalance_2 rfl (lv_at hl 1 rfl) ?_
        refine lv_sipush (v := 256) hx hb dX0_keepBalance_3 (by decide) ?_
        refine lv_icmp_ge (tgt := 48) hx hb dX0_keepBalance_6 (by decide) (fun c => absurd c (by rw [nIl256]; exact nI_ge (by omega) (by omega))) (fun _ => ?_)
        refine lv_aload_n hx hb dX0_keepBalance_9 rfl (lv_at hl 0 rfl) ?_
        refine k_calli (rest := []) (q0 := 0) hC (c_X0_differenceOfLoads l dC dI cI cZ h a qph qgr qne qap qle qfu qpc qgd qri qnw qtk qsv qwa vgi vlo qtu   ) (cwV 0 hts gX0_keepBalance_X0_differenceOfLoads rfl rfl rfl hd_X0_differenceOfLoads ⟨Nat.le_of_ble_eq_true rfl, Nat.le_of_ble_eq_true rfl⟩) hK hP hD hS hA rfl rfl rfl hl.1 (Nat.le_of_ble_eq_true rfl) dX0_keepBalance_10 rfl ⟨Nat.zero_le _, Nat.zero_le _⟩ (fun H locs hP hD hS => ?_)
        refine lv_aload_n hx hb dX0_keepBalance_13 rfl (lv_at hl 0 rfl) ?_
        refine va_get (D := (dC, dI)) (ci := 0) (v := .int qgd) (C := RX0) (T := TX0) (N := 16) hx hb hts hin hown hK hP 0 rfl rfl 7 (by decide) hw0 (fun _ h9 => h9) rfl dX0_keepBalance_14 ?_
        refine lv_icmp_gt (tgt := 21) hx hb dX0_keepBalance_17 (by decide) (fun c17 => ?_) (fun c17 => ?_)
        · refine lv_aload_n hx hb dX0_keepBalance_21 rfl (lv_at hl 0 rfl) ?_
          refine lv_aload_n hx hb dX0_keepBalance_22 rfl (lv_at hl 0 rfl) ?_
          refine k_calli (rest := [.ref h]) (q0 := 0) hC (c_X0_phaseOfGreatestLoad l dC dI cI cZ h a qph qgr qne qap qle qfu qpc qgd qri qnw qtk qsv qwa vgi vlo qtu   ) (cwV 0 hts gX0_keepBalance_X0_phaseOfGreatestLoad rfl rfl rfl hd_X0_phaseOfGreatestLoad ⟨Nat.le_of_ble_eq_true rfl, Nat.le_of_ble_eq_true rfl⟩) hK hP hD hS hA rfl rfl rfl hl.1 (Nat.le_of_ble_eq_true rfl) dX0_keepBalance_23 rfl ⟨Nat.zero_le _, Nat.zero_le _⟩ (fun H locs hP hD hS => ?_)
          refine k_calli (rest := []) (q0 := 0) hC (c_X0_mostGivenAloneAt l dC dI cI cZ h a qph qgr qne qap qle qfu qpc qgd qri qnw qtk qsv qwa vgi vlo qtu n (X0_phaseOfGreatestLoad vlo) hpc hn) (cwV 1 hts gX0_keepBalance_X0_mostGivenAloneAt rfl rfl rfl hd_X0_mostGivenAloneAt ⟨Nat.le_of_ble_eq_true rfl, Nat.le_of_ble_eq_true rfl⟩) hK hP hD hS hA rfl rfl rfl hl.1 (Nat.le_of_ble_eq_true rfl) dX0_keepBalance_26 rfl ⟨Nat.zero_le _, Nat.zero_le _⟩ (fun H locs hP hD hS => ?_)
          refine lv_istore_n (lv' := [(2, .int (X0_mostGivenAloneAt qph vgi n (X0_phaseOfGreatestLoad vlo))), (0, .ref h), (1, .int (nI k))]) hx hb dX0_keepBalance_29 rfl hl (by decide) rfl (fun ls hl => ?_)
          refine lv_iload_n hx hb dX0_keepBalance_30 rfl (lv_at hl 0 rfl) ?_
          refine lv_iconst (v := (-1)) hx hb dX0_keepBalance_31 (by decide) ?_
          refine lv_icmp_ne (tgt := 36) hx hb dX0_keepBalance_32 (by decide) (fun c32 => ?_) (fun c32 => ?_)
          · refine lv_aload_n hx hb dX0_keepBalance_36 rfl (lv_at hl 1 rfl) ?_
            refine lv_iload_n hx hb dX0_keepBalance_37 rfl (lv_at hl 0 rfl) ?_
            refine lv_iconst (v := (-1)) hx hb dX0_keepBalance_38 (by decide) ?_
            refine k_callv (rest := []) (q0 := 0) hC (c_X0_give l dC dI cI cZ h a qph qgr qne qap qle qfu qpc qgd qri qnw qtk qsv qwa vgi vlo qtu  (X0_mostGivenAloneAt qph vgi n (X0_phaseOfGreatestLoad vlo)) (-1) ((X0_mostGivenAloneAt_in _ _ n _ hn).resolve_left c32)) (cwV 2 hts gX0_keepBalance_X0_give rfl rfl rfl hd_X0_give ⟨Nat.le_of_ble_eq_true rfl, Nat.le_of_ble_eq_true rfl⟩) hK hP hD hS hA rfl rfl rfl hl.1 (Nat.le_of_ble_eq_true rfl) dX0_keepBalance_39 rfl ⟨Nat.zero_le _, Nat.zero_le _⟩ (fun H locs hP hD hS => ?_)
            obtain ⟨z1, hz1⟩ : ∃ z : AR, z = ((X0_give qph vgi vlo (X0_mostGivenAloneAt qph vgi n (X0_phaseOfGreatestLoad vlo)) (-1)).1) := ⟨_, rfl⟩
            rw [← hz1] at hP hD
            obtain ⟨z2, hz2⟩ : ∃ z : AR, z = ((X0_give qph vgi vlo (X0_mostGivenAloneAt qph vgi n (X0_phaseOfGreatestLoad vlo)) (-1)).2) := ⟨_, rfl⟩
            rw [← hz2] at hP hD
            have hP : va_P (dC, dI) vwCl (xW cI cZ h a qph qgr qne qap qle qfu qpc qgd qri qnw qtk qsv qwa z1 z2 qtu) H := hP
            have hD : va_D A (xW cI cZ h a qph qgr qne qap qle qfu qpc qgd qri qnw qtk qsv qwa z1 z2 qtu) := hD
            refine lv_iinc (v := (nI (k + 1))) (lv' := [(1, .int (nI (k + 1))), (2, .int (X0_mostGivenAloneAt qph vgi n (X0_phaseOfGreatestLoad vlo))), (0, .ref h)]) hx hb dX0_keepBalance_42 hl (k := 2) rfl (nI_1 k) (by decide) rfl (fun ls hl => ?_)
            refine lv_goto (tgt := 2) hx hb dX0_keepBalance_45 (by decide) ?_
            have hP9 := hP; have hD9 := hD; have hl9 := hl; have hR9 := hR; have ih9 := ih
            subst hz1 hz2
            exact ih9 (k + 1) ((X0_give qph vgi vlo (X0_mostGivenAloneAt qph vgi n (X0_phaseOfGreatestLoad vlo)) (-1)).1) ((X0_give qph vgi vlo (X0_mostGivenAloneAt qph vgi n (X0_phaseOfGreatestLoad vlo)) (-1)).2) (by omega) (by rw [← hR9, X0_keepBalance_L2, if_pos c17, if_neg c32])  H locs ls hP9 hD9 hS (lv_sub hl9 [2, 0] rfl)
          · have hP8 : va_P (dC, dI) vwCl (xW cI cZ h a qph qgr qne qap qle qfu qpc qgd qri qnw qtk qsv qwa ((X0_keepBalance qph qgd qgi qlo n).1) ((X0_keepBalance qph qgd qgi qlo n).2) qtu) H := by rw [← hR, X0_keepBalance_L2, if_pos c17, if_pos c32]; exact hP
            have hD8 : va_D A (xW cI cZ h a qph qgr qne qap qle qfu qpc qgd qri qnw qtk qsv qwa ((X0_keepBalance qph qgd qgi qlo n).1) ((X0_keepBalance qph qgd qgi qlo n).2) qtu) := by rw [← hR, X0_keepBalance_L2, if_pos c17, if_pos c32]; exact hD
            exact hret H locs 35 ls hS hP8 hD8 dX0_keepBalance_35
        · have hP8 : va_P (dC, dI) vwCl (xW cI cZ h a qph qgr qne qap qle qfu qpc qgd qri qnw qtk qsv qwa ((X0_keepBalance qph qgd qgi qlo n).1) ((X0_keepBalance qph qgd qgi qlo n).2) qtu) H := by rw [← hR, X0_keepBalance_L2, if_neg c17]; exact hP
          have hD8 : va_D A (xW cI cZ h a qph qgr qne qap qle qfu qpc qgd qri qnw qtk qsv qwa ((X0_keepBalance qph qgd qgi qlo n).1) ((X0_keepBalance qph qgd qgi qlo n).2) qtu) := by rw [← hR, X0_keepBalance_L2, if_neg c17]; exact hD
          exact hret H locs 20 ls hS hP8 hD8 dX0_keepBalance_20
    exact loop2 256 0 qgi qlo (by omega) (by rw [X0_keepBalance])  H locs ls hP hD hS (lv_sub hl [1, 0] rfl)
  exact hW _ _ hP hD hS
def X0_shareCurrents (qph : AR) (qgr : AR) (qne : AR) (qap : AR) (qle : AR) (qfu : AR) (qgd : Int32) (qri : Int32) (qnw : Int32) (qwa : AR) (qgi : AR) (qlo : AR) (qtu : AR) (n : Nat) : AR × AR × AR × AR := (if qri = 1 then (((X0_startShares qph qgr qne qap qle qnw qwa qgi qlo n).1), ((X0_keepBalance qph qgd ((X0_shareFairly qph qfu ((X0_startShares qph qgr qne qap qle qnw qwa qgi qlo n).1) ((X0_startShares qph qgr qne qap qle qnw qwa qgi qlo n).2.1) ((X0_startShares qph qgr qne qap qle qnw qwa qgi qlo n).2.2) n).1) ((X0_shareFairly qph qfu ((X0_startShares qph qgr qne qap qle qnw qwa qgi qlo n).1) ((X0_startShares qph qgr qne qap qle qnw qwa qgi qlo n).2.1) ((X0_startShares qph qgr qne qap qle qnw qwa qgi qlo n).2.2) n).2) n).1), ((X0_keepBalance qph qgd ((X0_shareFairly qph qfu ((X0_startShares qph qgr qne qap qle qnw qwa qgi qlo n).1) ((X0_startShares qph qgr qne qap qle qnw qwa qgi qlo n).2.1) ((X0_startShares qph qgr qne qap qle qnw qwa qgi qlo n).2.2) n).1) ((X0_shareFairly qph qfu ((X0_startShares qph qgr qne qap qle qnw qwa qgi qlo n).1) ((X0_startShares qph qgr qne qap qle qnw qwa qgi qlo n).2.1) ((X0_startShares qph qgr qne qap qle qnw qwa qgi qlo n).2.2) n).2) n).2), qtu) else (((X0_startShares qph qgr qne qap qle qnw qwa qgi qlo n).1), ((X0_keepBalance qph qgd ((X0_shareByLaxity qph qgr qne qap qle qfu qnw ((X0_startShares qph qgr qne qap qle qnw qwa qgi qlo n).1) ((X0_startShares qph qgr qne qap qle qnw qwa qgi qlo n).2.1) ((X0_startShares qph qgr qne qap qle qnw qwa qgi qlo n).2.2) qtu n).1) ((X0_shareByLaxity qph qgr qne qap qle qfu qnw ((X0_startShares qph qgr qne qap qle qnw qwa qgi qlo n).1) ((X0_startShares qph qgr qne qap qle qnw qwa qgi qlo n).2.1) ((X0_startShares qph qgr qne qap qle qnw qwa qgi qlo n).2.2) qtu n).2.1) n).1), ((X0_keepBalance qph qgd ((X0_shareByLaxity qph qgr qne qap qle qfu qnw ((X0_startShares qph qgr qne qap qle qnw qwa qgi qlo n).1) ((X0_startShares qph qgr qne qap qle qnw qwa qgi qlo n).2.1) ((X0_startShares qph qgr qne qap qle qnw qwa qgi qlo n).2.2) qtu n).1) ((X0_shareByLaxity qph qgr qne qap qle qfu qnw ((X0_startShares qph qgr qne qap qle qnw qwa qgi qlo n).1) ((X0_startShares qph qgr qne qap qle qnw qwa qgi qlo n).2.1) ((X0_startShares qph qgr qne qap qle qnw qwa qgi qlo n).2.2) qtu n).2.1) n).2), ((X0_shareByLaxity qph qgr qne qap qle qfu qnw ((X0_startShares qph qgr qne qap qle qnw qwa qgi qlo n).1) ((X0_startShares qph qgr qne qap qle qnw qwa qgi qlo n).2.1) ((X0_startShares qph qgr qne qap qle qnw qwa qgi qlo n).2.2) qtu n).2.2)))
abbrev rmX0_shareCurrents : Room := { frames := 5, cells := 0, slots := 0, locals := 103 }
theorem hd_X0_shareCurrents : yX0_shareCurrents.cls = RX0 ∧ yX0_shareCurrents.cls ≠ "java/lang/invoke/MethodHandle" ∧ yX0_shareCurrents.cls ≠ "java/lang/invoke/VarHandle" ∧ (parseMethodDescriptor yX0_shareCurrents.desc).map (fun d => d.parameters.length) = some 0 := by decide +kernel
set_option maxHeartbeats 4000000 in
set_option maxRecDepth 100000 in
theorem c_X0_shareCurrents (l : Launch) (dC : Nat → ClassId) (dI : Nat → Nat → Nat) (cI cZ : ClassId) (h : Nat) (a : Nat → Nat) (qph : AR) (qgr : AR) (qne : AR) (qap : AR) (qle : AR) (qfu : AR) (qpc : Int32) (qgd : Int32) (qri : Int32) (qnw : Int32) (qtk : Int32) (qsv : Int32) (qwa : AR) (qgi : AR) (qlo : AR) (qtu : AR) (n : Nat) (hpc : qpc = nI n) (hn : n ≤ 8) : Kv l yX0_shareCurrents wsX0_shareCurrents rmX0_shareCurrents dC dI cI cZ [.ref h] (xW cI cZ h a qph qgr qne qap qle qfu qpc qgd qri qnw qtk qsv qwa qgi qlo qtu) (xW cI cZ h a qph qgr qne qap qle qfu qpc qgd qri qnw qtk qsv ((X0_shareCurrents qph qgr qne qap qle qfu qgd qri qnw qwa qgi qlo qtu n).1) ((X0_shareCurrents qph qgr qne qap qle qfu qgd qri qnw qwa qgi qlo qtu n).2.1) ((X0_shareCurrents qph qgr qne qap qle qfu qgd qri qnw qwa qgi qlo qtu n).2.2.1) ((X0_shareCurrents qph qgr qne qap qle qfu qgd qri qnw qwa qgi qlo qtu n).2.2.2)) := by
  refine k_enter_v (cc := cX0_shareCurrents) (maxL := 1) (ret := none) (by decide) rfl (Nat.le_of_ble_eq_true rfl) ?_
  intro p e s m below meth c A ls hC hr hlocks hK hP hD hS hA hl
  generalize List.toArray _ = args at hC ⊢
  obtain ⟨hx, hb, hml, hown, hts⟩ := id hC
  have hret : ∀ (H : Heap) (locs : List Loc) (pc : Nat) (ls : Array Slot), va_S A s.heap H locs → va_P (dC, dI) vwCl (xW cI cZ h a qph qgr qne qap qle qfu qpc qgd qri qnw qtk qsv ((X0_shareCurrents qph qgr qne qap qle qfu qgd qri qnw qwa qgi qlo qtu n).1) ((X0_shareCurrents qph qgr qne qap qle qfu qgd qri qnw qwa qgi qlo qtu n).2.1) ((X0_shareCurrents qph qgr qne qap qle qfu qgd qri qnw qwa qgi qlo qtu n).2.2.1) ((X0_shareCurrents qph qgr qne qap qle qfu qgd qri qnw qwa qgi qlo qtu n).2.2.2)) H → va_D A (xW cI cZ h a qph qgr qne qap qle qfu qpc qgd qri qnw qtk qsv ((X0_shareCurrents qph qgr qne qap qle qfu qgd qri qnw qwa qgi qlo qtu n).1) ((X0_shareCurrents qph qgr qne qap qle qfu qgd qri qnw qwa qgi qlo qtu n).2.1) ((X0_shareCurrents qph qgr qne qap qle qfu qgd qri qnw qwa qgi qlo qtu n).2.2.1) ((X0_shareCurrents qph qgr qne qap qle qfu qgd qri qnw qwa qgi qlo qtu n).2.2.2)) → decode cX0_shareCurrents pc = .ok (.return_, 1) → W p l e rmX0_shareCurrents s m args below meth c H locs 0 0 (MQ below (va_Qv (fun (_ : Unit) => True) (kBeh dC dI A (xW cI cZ h a qph qgr qne qap qle qfu qpc qgd qri qnw qtk qsv ((X0_shareCurrents qph qgr qne qap qle qfu qgd qri qnw qwa qgi qlo qtu n).1) ((X0_shareCurrents qph qgr qne qap qle qfu qgd qri qnw qwa qgi qlo qtu n).2.1) ((X0_shareCurrents qph qgr qne qap qle qfu qgd qri qnw qwa qgi qlo qtu n).2.2.1) ((X0_shareCurrents qph qgr qne qap qle qfu qgd qri qnw qwa qgi qlo qtu n).2.2.2))) A) args s 0 0 A) (F0 m pc ls []) := fun H locs pc ls hS hP hD d => k_vret hx hb hr hlocks hS hP hD d
  generalize MQ below _ _ _ _ _ _ = Q at hret ⊢
  have hin : ∀ w ∈ wsX00, w ∈ wsX0_shareCurrents := by decide +kernel
  have hw0 := hts (.fieldLink RX0 44 "ChargePark" "ruleInUse" "I") (by decide +kernel)
  have hl : lv_has ls 1 [(0, .ref h)] := hl
  have hP : va_P (dC, dI) vwCl (xW cI cZ h a qph qgr qne qap qle qfu qpc qgd qri qnw qtk qsv qwa qgi qlo qtu) s.heap := hP
  have hW : ∀ (H : Heap) (locs : List Loc), va_P (dC, dI) vwCl (xW cI cZ h a qph qgr qne qap qle qfu qpc qgd qri qnw qtk qsv qwa qgi qlo qtu) H → va_D A (xW cI cZ h a qph qgr qne qap qle qfu qpc qgd qri qnw qtk qsv qwa qgi qlo qtu) → va_S A s.heap H locs → W p l e rmX0_shareCurrents s m args below meth c H locs 0 0 Q (F0 m 0 ls []) := by
    intro H locs hP hD hS
    refine lv_aload_n hx hb dX0_shareCurrents_0 rfl (lv_at hl 0 rfl) ?_
    refine k_callv (rest := []) (q0 := 0) hC (c_X0_startShares l dC dI cI cZ h a qph qgr qne qap qle qfu qpc qgd qri qnw qtk qsv qwa qgi qlo qtu n  hpc hn) (cwV 0 hts gX0_shareCurrents_X0_startShares rfl rfl rfl hd_X0_startShares ⟨Nat.le_of_ble_eq_true rfl, Nat.le_of_ble_eq_true rfl⟩) hK hP hD hS hA rfl rfl rfl hl.1 (Nat.le_of_ble_eq_true rfl) dX0_shareCurrents_1 rfl ⟨Nat.zero_le _, Nat.zero_le _⟩ (fun H locs hP hD hS => ?_)
    obtain ⟨z1, hz1⟩ : ∃ z : AR, z = ((X0_startShares qph qgr qne qap qle qnw qwa qgi qlo n).1) := ⟨_, rfl⟩
    rw [← hz1] at hP hD
    obtain ⟨z2, hz2⟩ : ∃ z : AR, z = ((X0_startShares qph qgr qne qap qle qnw qwa qgi qlo n).2.1) := ⟨_, rfl⟩
    rw [← hz2] at hP hD
    obtain ⟨z3, hz3⟩ : ∃ z : AR, z = ((X0_startShares qph qgr qne qap qle qnw qwa qgi qlo n).2.2) := ⟨_, rfl⟩
    rw [← hz3] at hP hD
    have hP : va_P (dC, dI) vwCl (xW cI cZ h a qph qgr qne qap qle qfu qpc qgd qri qnw qtk qsv z1 z2 z3 qtu) H := hP
    have hD : va_D A (xW cI cZ h a qph qgr qne qap qle qfu qpc qgd qri qnw qtk qsv z1 z2 z3 qtu) := hD
    refine lv_aload_n hx hb dX0_shareCurrents_4 rfl (lv_at hl 0 rfl) ?_
    refine va_get (D := (dC, dI)) (ci := 0) (v := .int qri) (C := RX0) (T := TX0) (N := 16) hx hb hts hin hown hK hP 0 rfl rfl 8 (by decide) hw0 (fun _ h9 => h9) rfl dX0_shareCurrents_5 ?_
    refine lv_iconst (v := 1) hx hb dX0_shareCurrents_8 (by decide) ?_
    refine lv_icmp_ne (tgt := 19) hx hb dX0_shareCurrents_9 (by decide) (fun c9 => ?_) (fun c9 => ?_)
    · refine lv_aload_n hx hb dX0_shareCurrents_19 rfl (lv_at hl 0 rfl) ?_
      refine k_callv (rest := []) (q0 := 0) hC (c_X0_shareByLaxity l dC dI cI cZ h a qph qgr qne qap qle qfu qpc qgd qri qnw qtk qsv z1 z2 z3 qtu n  hpc hn) (cwV 0 hts gX0_shareCurrents_X0_shareByLaxity rfl rfl rfl hd_X0_shareByLaxity ⟨Nat.le_of_ble_eq_true rfl, Nat.le_of_ble_eq_true rfl⟩) hK hP hD hS hA rfl rfl rfl hl.1 (Nat.le_of_ble_eq_true rfl) dX0_shareCurrents_20 rfl ⟨Nat.zero_le _, Nat.zero_le _⟩ (fun H locs hP hD hS => ?_)
      obtain ⟨z4, hz4⟩ : ∃ z : AR, z = ((X0_shareByLaxity qph qgr qne qap qle qfu qnw z1 z2 z3 qtu n).1) := ⟨_, rfl⟩
      rw [← hz4] at hP hD
      obtain ⟨z5, hz5⟩ : ∃ z : AR, z = ((X0_shareByLaxity qph qgr qne qap qle qfu qnw z1 z2 z3 qtu n).2.1) := ⟨_, rfl⟩
      rw [← hz5] at hP hD
      obtain ⟨z6, hz6⟩ : ∃ z : AR, z = ((X0_shareByLaxity qph qgr qne qap qle qfu qnw z1 z2 z3 qtu n).2.2) := ⟨_, rfl⟩
      rw [← hz6] at hP hD
      have hP : va_P (dC, dI) vwCl (xW cI cZ h a qph qgr qne qap qle qfu qpc qgd qri qnw qtk qsv z1 z4 z5 z6) H := hP
      have hD : va_D A (xW cI cZ h a qph qgr qne qap qle qfu qpc qgd qri qnw qtk qsv z1 z4 z5 z6) := hD
      refine lv_aload_n hx hb dX0_shareCurrents_23 rfl (lv_at hl 0 rfl) ?_
      refine k_callv (rest := []) (q0 := 0) hC (c_X0_keepBalance l dC dI cI cZ h a qph qgr qne qap qle qfu qpc qgd qri qnw qtk qsv z1 z4 z5 z6 n  hpc hn) (cwV 0 hts gX0_shareCurrents_X0_keepBalance rfl rfl rfl hd_X0_keepBalance ⟨Nat.le_of_ble_eq_true rfl, Nat.le_of_ble_eq_true rfl⟩) hK hP hD hS hA rfl rfl rfl hl.1 (Nat.le_of_ble_eq_true rfl) dX0_shareCurrents_24 rfl ⟨Nat.zero_le _, Nat.zero_le _⟩ (fun H locs hP hD hS => ?_)
      obtain ⟨z7, hz7⟩ : ∃ z : AR, z = ((X0_keepBalance qph qgd z4 z5 n).1) := ⟨_, rfl⟩
      rw [← hz7] at hP hD
      obtain ⟨z8, hz8⟩ : ∃ z : AR, z = ((X0_keepBalance qph qgd z4 z5 n).2) := ⟨_, rfl⟩
      rw [← hz8] at hP hD
      have hP : va_P (dC, dI) vwCl (xW cI cZ h a qph qgr qne qap qle qfu qpc qgd qri qnw qtk qsv z1 z7 z8 z6) H := hP
      have hD : va_D A (xW cI cZ h a qph qgr qne qap qle qfu qpc qgd qri qnw qtk qsv z1 z7 z8 z6) := hD
      have hP9 := hP; have hD9 := hD
      subst hz1 hz2 hz3 hz4 hz5 hz6 hz7 hz8
      have hP8 : va_P (dC, dI) vwCl (xW cI cZ h a qph qgr qne qap qle qfu qpc qgd qri qnw qtk qsv ((X0_shareCurrents qph qgr qne qap qle qfu qgd qri qnw qwa qgi qlo qtu n).1) ((X0_shareCurrents qph qgr qne qap qle qfu qgd qri qnw qwa qgi qlo qtu n).2.1) ((X0_shareCurrents qph qgr qne qap qle qfu qgd qri qnw qwa qgi qlo qtu n).2.2.1) ((X0_shareCurrents qph qgr qne qap qle qfu qgd qri qnw qwa qgi qlo qtu n).2.2.2)) H := by rw [X0_shareCurrents, if_neg c9]; exact hP9
      have hD8 : va_D A (xW cI cZ h a qph qgr qne qap qle qfu qpc qgd qri qnw qtk qsv ((X0_shareCurrents qph qgr qne qap qle qfu qgd qri qnw qwa qgi qlo qtu n).1) ((X0_shareCurrents qph qgr qne qap qle qfu qgd qri qnw qwa qgi qlo qtu n).2.1) ((X0_shareCurrents qph qgr qne qap qle qfu qgd qri qnw qwa qgi qlo qtu n).2.2.1) ((X0_shareCurrents qph qgr qne qap qle qfu qgd qri qnw qwa qgi qlo qtu n).2.2.2)) := by rw [X0_shareCurrents, if_neg c9]; exact hD9
      exact hret H locs 27 ls hS hP8 hD8 dX0_shareCurrents_27
    · refine lv_aload_n hx hb dX0_shareCurrents_12 rfl (lv_at hl 0 rfl) ?_
      refine k_callv (rest := []) (q0 := 0) hC (c_X0_shareFairly l dC dI cI cZ h a qph qgr qne qap qle qfu qpc qgd qri qnw qtk qsv z1 z2 z3 qtu n  hpc hn) (cwV 0 hts gX0_shareCurrents_X0_shareFairly rfl rfl rfl hd_X0_shareFairly ⟨Nat.le_of_ble_eq_true rfl, Nat.le_of_ble_eq_true rfl⟩) hK hP hD hS hA rfl rfl rfl hl.1 (Nat.le_of_ble_eq_true rfl) dX0_shareCurrents_13 rfl ⟨Nat.zero_le _, Nat.zero_le _⟩ (fun H locs hP hD hS => ?_)
      obtain ⟨z9, hz9⟩ : ∃ z : AR, z = ((X0_shareFairly qph qfu z1 z2 z3 n).1) := ⟨_, rfl⟩
      rw [← hz9] at hP hD
      obtain ⟨z10, hz10⟩ : ∃ z : AR, z = ((X0_shareFairly qph qfu z1 z2 z3 n).2) := ⟨_, rfl⟩
      rw [← hz10] at hP hD
      have hP : va_P (dC, dI) vwCl (xW cI cZ h a qph qgr qne qap qle qfu qpc qgd qri qnw qtk qsv z1 z9 z10 qtu) H := hP
      have hD : va_D A (xW cI cZ h a qph qgr qne qap qle qfu qpc qgd qri qnw qtk qsv z1 z9 z10 qtu) := hD
      refine lv_goto (tgt := 23) hx hb dX0_shareCurrents_16 (by decide) ?_
      refine lv_aload_n hx hb dX0_shareCurrents_23 rfl (lv_at hl 0 rfl) ?_
      refine k_callv (rest := []) (q0 := 0) hC (c_X0_keepBalance l dC dI cI cZ h a qph qgr qne qap qle qfu qpc qgd qri qnw qtk qsv z1 z9 z10 qtu n  hpc hn) (cwV 0 hts gX0_shareCurrents_X0_keepBalance rfl rfl rfl hd_X0_keepBalance ⟨Nat.le_of_ble_eq_true rfl, Nat.le_of_ble_eq_true rfl⟩) hK hP hD hS hA rfl rfl rfl hl.1 (Nat.le_of_ble_eq_true rfl) dX0_shareCurrents_24 rfl ⟨Nat.zero_le _, Nat.zero_le _⟩ (fun H locs hP hD hS => ?_)
      obtain ⟨z11, hz11⟩ : ∃ z : AR, z = ((X0_keepBalance qph qgd z9 z10 n).1) := ⟨_, rfl⟩
      rw [← hz11] at hP hD
      obtain ⟨z12, hz12⟩ : ∃ z : AR, z = ((X0_keepBalance qph qgd z9 z10 n).2) := ⟨_, rfl⟩
      rw [← hz12] at hP hD
      have hP : va_P (dC, dI) vwCl (xW cI cZ h a qph qgr qne qap qle qfu qpc qgd qri qnw qtk qsv z1 z11 z12 qtu) H := hP
      have hD : va_D A (xW cI cZ h a qph qgr qne qap qle qfu qpc qgd qri qnw qtk qsv z1 z11 z12 qtu) := hD
      have hP9 := hP; have hD9 := hD
      subst hz1 hz2 hz3 hz9 hz10 hz11 hz12
      have hP8 : va_P (dC, dI) vwCl (xW cI cZ h a qph qgr qne qap qle qfu qpc qgd qri qnw qtk qsv ((X0_shareCurrents qph qgr qne qap qle qfu qgd qri qnw qwa qgi qlo qtu n).1) ((X0_shareCurrents qph qgr qne qap qle qfu qgd qri qnw qwa qgi qlo qtu n).2.1) ((X0_shareCurrents qph qgr qne qap qle qfu qgd qri qnw qwa qgi qlo qtu n).2.2.1) ((X0_shareCurrents qph qgr qne qap qle qfu qgd qri qnw qwa qgi qlo qtu n).2.2.2)) H := by rw [X0_shareCurrents, if_pos c9]; exact hP9
      have hD8 : va_D A (xW cI cZ h a qph qgr qne qap qle qfu qpc qgd qri qnw qtk qsv ((X0_shareCurrents qph qgr qne qap qle qfu qgd qri qnw qwa qgi qlo qtu n).1) ((X0_shareCurrents qph qgr qne qap qle qfu qgd qri qnw qwa qgi qlo qtu n).2.1) ((X0_shareCurrents qph qgr qne qap qle qfu qgd qri qnw qwa qgi qlo qtu n).2.2.1) ((X0_shareCurrents qph qgr qne qap qle qfu qgd qri qnw qwa qgi qlo qtu n).2.2.2)) := by rw [X0_shareCurrents, if_pos c9]; exact hD9
      exact hret H locs 27 ls hS hP8 hD8 dX0_shareCurrents_27
  exact hW _ _ hP hD hS
