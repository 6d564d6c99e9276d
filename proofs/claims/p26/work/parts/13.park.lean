def X0_point_T (qpc : Int32) (n : Nat) (f : Int32) (g : Int32) : Int32 := (if f = 3 then (if (X0_requireWithin_T g 6 32) = 0 then (if qpc < 8 then 0 else 2) else 1) else (if (X0_requirePhase_T f) = 0 then (if (X0_requireWithin_T g 6 32) = 0 then (if qpc < 8 then 0 else 2) else 1) else 1))
def X0_point (qph : AR) (qgr : AR) (qne : AR) (qpc : Int32) (n : Nat) (f : Int32) (g : Int32) : Int32 × AR × AR × AR × Int32 := (if f = 3 then (if (X0_requireWithin_T g 6 32) = 0 then (if qpc < 8 then (qpc, (upd qph qpc.toNatClampNeg f), (upd qgr qpc.toNatClampNeg g), (upd qne qpc.toNatClampNeg (-1)), (qpc + 1)) else (0, qph, qgr, qne, qpc)) else (0, qph, qgr, qne, qpc)) else (if (X0_requirePhase_T f) = 0 then (if (X0_requireWithin_T g 6 32) = 0 then (if qpc < 8 then (qpc, (upd qph qpc.toNatClampNeg f), (upd qgr qpc.toNatClampNeg g), (upd qne qpc.toNatClampNeg (-1)), (qpc + 1)) else (0, qph, qgr, qne, qpc)) else (0, qph, qgr, qne, qpc)) else (0, qph, qgr, qne, qpc)))
abbrev rmX0_point : Room := { frames := 1, cells := 0, slots := 0, locals := 22 }
theorem hd_X0_point : yX0_point.cls = RX0 ∧ yX0_point.cls ≠ "java/lang/invoke/MethodHandle" ∧ yX0_point.cls ≠ "java/lang/invoke/VarHandle" ∧ (parseMethodDescriptor yX0_point.desc).map (fun d => d.parameters.length) = some 2 := by decide +kernel
set_option maxHeartbeats 4000000 in
set_option maxRecDepth 100000 in
theorem c_X0_point (l : Launch) (dC : Nat → ClassId) (dI : Nat → Nat → Nat) (cI cZ : ClassId) (h : Nat) (a : Nat → Nat) (qph : AR) (qgr : AR) (qne : AR) (qap : AR) (qle : AR) (qfu : AR) (qpc : Int32) (qgd : Int32) (qri : Int32) (qnw : Int32) (qtk : Int32) (qsv : Int32) (qwa : AR) (qgi : AR) (qlo : AR) (qtu : AR) (n : Nat) (f : Int32) (g : Int32) (hpc : qpc = nI n) (hn : n ≤ 8) (hok : X0_point_T qpc n f g = 0) : Ki l yX0_point wsX0_point rmX0_point dC dI cI cZ [.ref h, .int f, .int g] (xW cI cZ h a qph qgr qne qap qle qfu qpc qgd qri qnw qtk qsv qwa qgi qlo qtu) (xW cI cZ h a ((X0_point qph qgr qne qpc n f g).2.1) ((X0_point qph qgr qne qpc n f g).2.2.1) ((X0_point qph qgr qne qpc n f g).2.2.2.1) qap qle qfu ((X0_point qph qgr qne qpc n f g).2.2.2.2) qgd qri qnw qtk qsv qwa qgi qlo qtu) (X0_point qph qgr qne qpc n f g).1 := by
  refine k_enter_i (cc := cX0_point) (maxL := 4) (ret := some .int) (by decide) rfl (Nat.le_of_ble_eq_true rfl) ?_
  intro p e s m below meth c A ls hC hr hlocks hK hP hD hS hA hl
  generalize List.toArray _ = args at hC ⊢
  obtain ⟨hx, hb, hml, hown, hts⟩ := id hC
  have hret : ∀ (H : Heap) (locs : List Loc) (pc : Nat) (ls : Array Slot) (r : Int32), va_S A s.heap H locs → va_P (dC, dI) vwCl (xW cI cZ h a ((X0_point qph qgr qne qpc n f g).2.1) ((X0_point qph qgr qne qpc n f g).2.2.1) ((X0_point qph qgr qne qpc n f g).2.2.2.1) qap qle qfu ((X0_point qph qgr qne qpc n f g).2.2.2.2) qgd qri qnw qtk qsv qwa qgi qlo qtu) H → va_D A (xW cI cZ h a ((X0_point qph qgr qne qpc n f g).2.1) ((X0_point qph qgr qne qpc n f g).2.2.1) ((X0_point qph qgr qne qpc n f g).2.2.2.1) qap qle qfu ((X0_point qph qgr qne qpc n f g).2.2.2.2) qgd qri qnw qtk qsv qwa qgi qlo qtu) → r = (X0_point qph qgr qne qpc n f g).1 → decode cX0_point pc = .ok (.ireturn, 1) → W p l e rmX0_point s m args below meth c H locs 0 0 (MQ below (va_Qi (fun r (_ : Unit) => r = (X0_point qph qgr qne qpc n f g).1) (kBeh dC dI A (xW cI cZ h a ((X0_point qph qgr qne qpc n f g).2.1) ((X0_point qph qgr qne qpc n f g).2.2.1) ((X0_point qph qgr qne qpc n f g).2.2.2.1) qap qle qfu ((X0_point qph qgr qne qpc n f g).2.2.2.2) qgd qri qnw qtk qsv qwa qgi qlo qtu)) A) args s 0 0 A) (F0 m pc ls [.int r]) := fun H locs pc ls r hS hP hD hv d => k_iret hx hb hr hlocks hS hP hD hv d
  generalize MQ below _ _ _ _ _ _ = Q at hret ⊢
  have hin : ∀ w ∈ wsX00, w ∈ wsX0_point := by decide +kernel
  have hw0 := hts (.fieldLink RX0 55 "ChargePark" "pointCount" "I") (by decide +kernel)
  have hw1 := hts (.fieldLink RX0 9 "ChargePark" "phaseOf" "[I") (by decide +kernel)
  have hw2 := hts (.fieldLink RX0 13 "ChargePark" "greatestOf" "[I") (by decide +kernel)
  have hw3 := hts (.fieldLink RX0 16 "ChargePark" "needOf" "[I") (by decide +kernel)
  have hl : lv_has ls 4 [(0, .ref h), (1, .int f), (2, .int g)] := hl
  have hP : va_P (dC, dI) vwCl (xW cI cZ h a qph qgr qne qap qle qfu qpc qgd qri qnw qtk qsv qwa qgi qlo qtu) s.heap := hP
  have hW : ∀ (H : Heap) (locs : List Loc), va_P (dC, dI) vwCl (xW cI cZ h a qph qgr qne qap qle qfu qpc qgd qri qnw qtk qsv qwa qgi qlo qtu) H → va_D A (xW cI cZ h a qph qgr qne qap qle qfu qpc qgd qri qnw qtk qsv qwa qgi qlo qtu) → va_S A s.heap H locs → W p l e rmX0_point s m args below meth c H locs 0 0 Q (F0 m 0 ls []) := by
    intro H locs hP hD hS
    refine lv_iload_n hx hb dX0_point_0 rfl (lv_at hl 1 rfl) ?_
    refine lv_iconst (v := 3) hx hb dX0_point_1 (by decide) ?_
    refine lv_icmp_eq (tgt := 9) hx hb dX0_point_2 (by decide) (fun c2 => ?_) (fun c2 => ?_)
    · refine lv_iload_n hx hb dX0_point_9 rfl (lv_at hl 2 rfl) ?_
      refine lv_bipush (v := 6) hx hb dX0_point_10 (by decide) ?_
      refine lv_bipush (v := 32) hx hb dX0_point_12 (by decide) ?_
      by_cases c14 : (X0_requireWithin_T g 6 32) = 0
      · refine k_callsv (rest := []) (As := [.int g, .int 6, .int 32]) hC (c_X0_requireWithin l dC dI cI cZ (xW cI cZ h a qph qgr qne qap qle qfu qpc qgd qri qnw qtk qsv qwa qgi qlo qtu) g 6 32 c14) (va_cwS 3 hts gX0_point_X0_requireWithin rfl rfl rfl hd_X0_requireWithin ⟨Nat.le_of_ble_eq_true rfl, Nat.le_of_ble_eq_true rfl⟩) hK hP hD hS hA rfl hl.1 (Nat.le_of_ble_eq_true rfl) dX0_point_14 rfl ⟨Nat.zero_le _, Nat.zero_le _⟩ (fun H locs hP hD hS => ?_)
        refine lv_aload_n hx hb dX0_point_17 rfl (lv_at hl 0 rfl) ?_
        refine va_get (D := (dC, dI)) (ci := 0) (v := .int qpc) (C := RX0) (T := TX0) (N := 16) hx hb hts hin hown hK hP 0 rfl rfl 6 (by decide) hw0 (fun _ h9 => h9) rfl dX0_point_18 ?_
        refine lv_bipush (v := 8) hx hb dX0_point_21 (by decide) ?_
        refine lv_icmp_lt (tgt := 36) hx hb dX0_point_23 (by decide) (fun c23 => ?_) (fun c23 => ?_)
        · refine lv_aload_n hx hb dX0_point_36 rfl (lv_at hl 0 rfl) ?_
          refine va_get (D := (dC, dI)) (ci := 0) (v := .int qpc) (C := RX0) (T := TX0) (N := 16) hx hb hts hin hown hK hP 0 rfl rfl 6 (by decide) hw0 (fun _ h9 => h9) rfl dX0_point_37 ?_
          refine lv_istore_n (lv' := [(3, .int qpc), (0, .ref h), (1, .int f), (2, .int g)]) hx hb dX0_point_40 rfl hl (by decide) rfl (fun ls hl => ?_)
          refine lv_aload_n hx hb dX0_point_41 rfl (lv_at hl 1 rfl) ?_
          refine va_get (D := (dC, dI)) (ci := 0) (v := .ref (a 0)) (C := RX0) (T := TX0) (N := 16) hx hb hts hin hown hK hP 0 rfl rfl 0 (by decide) hw1 (fun _ h9 => h9) rfl dX0_point_42 ?_
          refine lv_iload_n hx hb dX0_point_45 rfl (lv_at hl 0 rfl) ?_
          refine lv_iload_n hx hb dX0_point_46 rfl (lv_at hl 2 rfl) ?_
          refine va_iast (f := qph) hx hb hK hP hD hS 1 0 rfl rfl (pcl_in hpc hn c23) dX0_point_47 (fun H locs hP hD hS => ?_)
          obtain ⟨z1, hz1⟩ : ∃ z : AR, z = (upd qph qpc.toNatClampNeg f) := ⟨_, rfl⟩
          rw [← hz1] at hP hD
          have hP : va_P (dC, dI) vwCl (xW cI cZ h a z1 qgr qne qap qle qfu qpc qgd qri qnw qtk qsv qwa qgi qlo qtu) H := hP
          have hD : va_D A (xW cI cZ h a z1 qgr qne qap qle qfu qpc qgd qri qnw qtk qsv qwa qgi qlo qtu) := hD
          refine lv_aload_n hx hb dX0_point_48 rfl (lv_at hl 1 rfl) ?_
          refine va_get (D := (dC, dI)) (ci := 0) (v := .ref (a 1)) (C := RX0) (T := TX0) (N := 16) hx hb hts hin hown hK hP 0 rfl rfl 1 (by decide) hw2 (fun _ h9 => h9) rfl dX0_point_49 ?_
          refine lv_iload_n hx hb dX0_point_52 rfl (lv_at hl 0 rfl) ?_
          refine lv_iload_n hx hb dX0_point_53 rfl (lv_at hl 3 rfl) ?_
          refine va_iast (f := qgr) hx hb hK hP hD hS 2 0 rfl rfl (pcl_in hpc hn c23) dX0_point_54 (fun H locs hP hD hS => ?_)
          obtain ⟨z2, hz2⟩ : ∃ z : AR, z = (upd qgr qpc.toNatClampNeg g) := ⟨_, rfl⟩
          rw [← hz2] at hP hD
          have hP : va_P (dC, dI) vwCl (xW cI cZ h a z1 z2 qne qap qle qfu qpc qgd qri qnw qtk qsv qwa qgi qlo qtu) H := hP
          have hD : va_D A (xW cI cZ h a z1 z2 qne qap qle qfu qpc qgd qri qnw qtk qsv qwa qgi qlo qtu) := hD
          refine lv_aload_n hx hb dX0_point_55 rfl (lv_at hl 1 rfl) ?_
          refine va_get (D := (dC, dI)) (ci := 0) (v := .ref (a 2)) (C := RX0) (T := TX0) (N := 16) hx hb hts hin hown hK hP 0 rfl rfl 2 (by decide) hw3 (fun _ h9 => h9) rfl dX0_point_56 ?_
          refine lv_iload_n hx hb dX0_point_59 rfl (lv_at hl 0 rfl) ?_
          refine lv_iconst (v := (-1)) hx hb dX0_point_60 (by decide) ?_
          refine va_iast (f := qne) hx hb hK hP hD hS 3 0 rfl rfl (pcl_in hpc hn c23) dX0_point_61 (fun H locs hP hD hS => ?_)
          obtain ⟨z3, hz3⟩ : ∃ z : AR, z = (upd qne qpc.toNatClampNeg (-1)) := ⟨_, rfl⟩
          rw [← hz3] at hP hD
          have hP : va_P (dC, dI) vwCl (xW cI cZ h a z1 z2 z3 qap qle qfu qpc qgd qri qnw qtk qsv qwa qgi qlo qtu) H := hP
          have hD : va_D A (xW cI cZ h a z1 z2 z3 qap qle qfu qpc qgd qri qnw qtk qsv qwa qgi qlo qtu) := hD
          refine lv_aload_n hx hb dX0_point_62 rfl (lv_at hl 1 rfl) ?_
          refine lv_dup hx hb dX0_point_63 rfl ?_
          refine va_get (D := (dC, dI)) (ci := 0) (v := .int qpc) (C := RX0) (T := TX0) (N := 16) hx hb hts hin hown hK hP 0 rfl rfl 6 (by decide) hw0 (fun _ h9 => h9) rfl dX0_point_64 ?_
          refine lv_iconst (v := 1) hx hb dX0_point_67 (by decide) ?_
          refine lv_iadd hx hb dX0_point_68 ?_
          refine va_put (D := (dC, dI)) (ci := 0) (v := .int (qpc + 1)) (ty := .int) (C := RX0) (T := TX0) (N := 16) hx hb hts hin tyX0 tyX0_ok nmX0 hown hK hP hD hS 0 rfl rfl 6 (by decide) hw0 (fun _ h9 => h9) rfl xfd6 rfl rfl (Nat.le_of_ble_eq_true rfl) dX0_point_69 (fun H locs hP hD hS => ?_)
          obtain ⟨z4, hz4⟩ : ∃ z : Int32, z = (qpc + 1) := ⟨_, rfl⟩
          rw [← hz4] at hP hD
          have hP : va_P (dC, dI) vwCl (xW cI cZ h a z1 z2 z3 qap qle qfu z4 qgd qri qnw qtk qsv qwa qgi qlo qtu) H := hP
          have hD : va_D A (xW cI cZ h a z1 z2 z3 qap qle qfu z4 qgd qri qnw qtk qsv qwa qgi qlo qtu) := hD
          refine lv_iload_n hx hb dX0_point_72 rfl (lv_at hl 0 rfl) ?_
          have hP9 := hP; have hD9 := hD
          subst hz1 hz2 hz3 hz4
          have hP8 : va_P (dC, dI) vwCl (xW cI cZ h a ((X0_point qph qgr qne qpc n f g).2.1) ((X0_point qph qgr qne qpc n f g).2.2.1) ((X0_point qph qgr qne qpc n f g).2.2.2.1) qap qle qfu ((X0_point qph qgr qne qpc n f g).2.2.2.2) qgd qri qnw qtk qsv qwa qgi qlo qtu) H := by rw [X0_point, if_pos c2, if_pos c14, if_pos c23]; exact hP9
          have hD8 : va_D A (xW cI cZ h a ((X0_point qph qgr qne qpc n f g).2.1) ((X0_point qph qgr qne qpc n f g).2.2.1) ((X0_point qph qgr qne qpc n f g).2.2.2.1) qap qle qfu ((X0_point qph qgr qne qpc n f g).2.2.2.2) qgd qri qnw qtk qsv qwa qgi qlo qtu) := by rw [X0_point, if_pos c2, if_pos c14, if_pos c23]; exact hD9
          exact hret H locs 73 ls qpc hS hP8 hD8 (by rw [X0_point, if_pos c2, if_pos c14, if_pos c23]) dX0_point_73
        · rw [X0_point_T, if_pos c2, if_pos c14, if_neg c23] at hok
          exact absurd hok (by decide)
      · rw [X0_point_T, if_pos c2, if_neg c14] at hok
        exact absurd hok (by decide)
    · refine lv_iload_n hx hb dX0_point_5 rfl (lv_at hl 1 rfl) ?_
      by_cases c6 : (X0_requirePhase_T f) = 0
      · refine k_callsv (rest := []) (As := [.int f]) hC (c_X0_requirePhase l dC dI cI cZ (xW cI cZ h a qph qgr qne qap qle qfu qpc qgd qri qnw qtk qsv qwa qgi qlo qtu) f c6) (va_cwS 1 hts gX0_point_X0_requirePhase rfl rfl rfl hd_X0_requirePhase ⟨Nat.le_of_ble_eq_true rfl, Nat.le_of_ble_eq_true rfl⟩) hK hP hD hS hA rfl hl.1 (Nat.le_of_ble_eq_true rfl) dX0_point_6 rfl ⟨Nat.zero_le _, Nat.zero_le _⟩ (fun H locs hP hD hS => ?_)
        refine lv_iload_n hx hb dX0_point_9 rfl (lv_at hl 2 rfl) ?_
        refine lv_bipush (v := 6) hx hb dX0_point_10 (by decide) ?_
        refine lv_bipush (v := 32) hx hb dX0_point_12 (by decide) ?_
        by_cases c14 : (X0_requireWithin_T g 6 32) = 0
        · refine k_callsv (rest := []) (As := [.int g, .int 6, .int 32]) hC (c_X0_requireWithin l dC dI cI cZ (xW cI cZ h a qph qgr qne qap qle qfu qpc qgd qri qnw qtk qsv qwa qgi qlo qtu) g 6 32 c14) (va_cwS 3 hts gX0_point_X0_requireWithin rfl rfl rfl hd_X0_requireWithin ⟨Nat.le_of_ble_eq_true rfl, Nat.le_of_ble_eq_true rfl⟩) hK hP hD hS hA rfl hl.1 (Nat.le_of_ble_eq_true rfl) dX0_point_14 rfl ⟨Nat.zero_le _, Nat.zero_le _⟩ (fun H locs hP hD hS => ?_)
          refine lv_aload_n hx hb dX0_point_17 rfl (lv_at hl 0 rfl) ?_
          refine va_get (D := (dC, dI)) (ci := 0) (v := .int qpc) (C := RX0) (T := TX0) (N := 16) hx hb hts hin hown hK hP 0 rfl rfl 6 (by decide) hw0 (fun _ h9 => h9) rfl dX0_point_18 ?_
          refine lv_bipush (v := 8) hx hb dX0_point_21 (by decide) ?_
          refine lv_icmp_lt (tgt := 36) hx hb dX0_point_23 (by decide) (fun c23 => ?_) (fun c23 => ?_)
          · refine lv_aload_n hx hb dX0_point_36 rfl (lv_at hl 0 rfl) ?_
            refine va_get (D := (dC, dI)) (ci := 0) (v := .int qpc) (C := RX0) (T := TX0) (N := 16) hx hb hts hin hown hK hP 0 rfl rfl 6 (by decide) hw0 (fun _ h9 => h9) rfl dX0_point_37 ?_
            refine lv_istore_n (lv' := [(3, .int qpc), (0, .ref h), (1, .int f), (2, .int g)]) hx hb dX0_point_40 rfl hl (by decide) rfl (fun ls hl => ?_)
            refine lv_aload_n hx hb dX0_point_41 rfl (lv_at hl 1 rfl) ?_
            refine va_get (D := (dC, dI)) (ci := 0) (v := .ref (a 0)) (C := RX0) (T := TX0) (N := 16) hx hb hts hin hown hK hP 0 rfl rfl 0 (by decide) hw1 (fun _ h9 => h9) rfl dX0_point_42 ?_
            refine lv_iload_n hx hb dX0_point_45 rfl (lv_at hl 0 rfl) ?_
            refine lv_iload_n hx hb dX0_point_46 rfl (lv_at hl 2 rfl) ?_
            refine va_iast (f := qph) hx hb hK hP hD hS 1 0 rfl rfl (pcl_in hpc hn c23) dX0_point_47 (fun H locs hP hD hS => ?_)
            obtain ⟨z5, hz5⟩ : ∃ z : AR, z = (upd qph qpc.toNatClampNeg f) := ⟨_, rfl⟩
            rw [← hz5] at hP hD
            have hP : va_P (dC, dI) vwCl (xW cI cZ h a z5 qgr qne qap qle qfu qpc qgd qri qnw qtk qsv qwa qgi qlo qtu) H := hP
            have hD : va_D A (xW cI cZ h a z5 qgr qne qap qle qfu qpc qgd qri qnw qtk qsv qwa qgi qlo qtu) := hD
            refine lv_aload_n hx hb dX0_point_48 rfl (lv_at hl 1 rfl) ?_
            refine va_get (D := (dC, dI)) (ci := 0) (v := .ref (a 1)) (C := RX0) (T := TX0) (N := 16) hx hb hts hin hown hK hP 0 rfl rfl 1 (by decide) hw2 (fun _ h9 => h9) rfl dX0_point_49 ?_
            refine lv_iload_n hx hb dX0_point_52 rfl (lv_at hl 0 rfl) ?_
            refine lv_iload_n hx hb dX0_point_53 rfl (lv_at hl 3 rfl) ?_
            refine va_iast (f := qgr) hx hb hK hP hD hS 2 0 rfl rfl (pcl_in hpc hn c23) dX0_point_54 (fun H locs hP hD hS => ?_)
            obtain ⟨z6, hz6⟩ : ∃ z : AR, z = (upd qgr qpc.toNatClampNeg g) := ⟨_, rfl⟩
            rw [← hz6] at hP hD
            have hP : va_P (dC, dI) vwCl (xW cI cZ h a z5 z6 qne qap qle qfu qpc qgd qri qnw qtk qsv qwa qgi qlo qtu) H := hP
            have hD : va_D A (xW cI cZ h a z5 z6 qne qap qle qfu qpc qgd qri qnw qtk qsv qwa qgi qlo qtu) := hD
            refine lv_aload_n hx hb dX0_point_55 rfl (lv_at hl 1 rfl) ?_
            refine va_get (D := (dC, dI)) (ci := 0) (v := .ref (a 2)) (C := RX0) (T := TX0) (N := 16) hx hb hts hin hown hK hP 0 rfl rfl 2 (by decide) hw3 (fun _ h9 => h9) rfl dX0_point_56 ?_
            refine lv_iload_n hx hb dX0_point_59 rfl (lv_at hl 0 rfl) ?_
            refine lv_iconst (v := (-1)) hx hb dX0_point_60 (by decide) ?_
            refine va_iast (f := qne) hx hb hK hP hD hS 3 0 rfl rfl (pcl_in hpc hn c23) dX0_point_61 (fun H locs hP hD hS => ?_)
            obtain ⟨z7, hz7⟩ : ∃ z : AR, z = (upd qne qpc.toNatClampNeg (-1)) := ⟨_, rfl⟩
            rw [← hz7] at hP hD
            have hP : va_P (dC, dI) vwCl (xW cI cZ h a z5 z6 z7 qap qle qfu qpc qgd qri qnw qtk qsv qwa qgi qlo qtu) H := hP
            have hD : va_D A (xW cI cZ h a z5 z6 z7 qap qle qfu qpc qgd qri qnw qtk qsv qwa qgi qlo qtu) := hD
            refine lv_aload_n hx hb dX0_point_62 rfl (lv_at hl 1 rfl) ?_
            refine lv_dup hx hb dX0_point_63 rfl ?_
            refine va_get (D := (dC, dI)) (ci := 0) (v := .int qpc) (C := RX0) (T := TX0) (N := 16) hx hb hts hin hown hK hP 0 rfl rfl 6 (by decide) hw0 (fun _ h9 => h9) rfl dX0_point_64 ?_
            refine lv_iconst (v := 1) hx hb dX0_point_67 (by decide) ?_
            refine lv_iadd hx hb dX0_point_68 ?_
            refine va_put (D := (dC, dI)) (ci := 0) (v := .int (qpc + 1)) (ty := .int) (C := RX0) (T := TX0) (N := 16) hx hb hts hin tyX0 tyX0_ok nmX0 hown hK hP hD hS 0 rfl rfl 6 (by decide) hw0 (fun _ h9 => h9) rfl xfd6 rfl rfl (Nat.le_of_ble_eq_true rfl) dX0_point_69 (fun H locs hP hD hS => ?_)
            obtain ⟨z8, hz8⟩ : ∃ z : Int32, z = (qpc + 1) := ⟨_, rfl⟩
            rw [← hz8] at hP hD
            have hP : va_P (dC, dI) vwCl (xW cI cZ h a z5 z6 z7 qap qle qfu z8 qgd qri qnw qtk qsv qwa qgi qlo qtu) H := hP
            have hD : va_D A (xW cI cZ h a z5 z6 z7 qap qle qfu z8 qgd qri qnw qtk qsv qwa qgi qlo qtu) := hD
            refine lv_iload_n hx hb dX0_point_72 rfl (lv_at hl 0 rfl) ?_
            have hP9 := hP; have hD9 := hD
            subst hz5 hz6 hz7 hz8
            have hP8 : va_P (dC, dI) vwCl (xW cI cZ h a ((X0_point qph qgr qne qpc n f g).2.1) ((X0_point qph qgr qne qpc n f g).2.2.1) ((X0_point qph qgr qne qpc n f g).2.2.2.1) qap qle qfu ((X0_point qph qgr qne qpc n f g).2.2.2.2) qgd qri qnw qtk qsv qwa qgi qlo qtu) H := by rw [X0_point, if_neg c2, if_pos c6, if_pos c14, if_pos c23]; exact hP9
            have hD8 : va_D A (xW cI cZ h a ((X0_point qph qgr qne qpc n f g).2.1) ((X0_point qph qgr qne qpc n f g).2.2.1) ((X0_point qph qgr qne qpc n f g).2.2.2.1) qap qle qfu ((X0_point qph qgr qne qpc n f g).2.2.2.2) qgd qri qnw qtk qsv qwa qgi qlo qtu) := by rw [X0_point, if_neg c2, if_pos c6, if_pos c14, if_pos c23]; exact hD9
            exact hret H locs 73 ls qpc hS hP8 hD8 (by rw [X0_point, if_neg c2, if_pos c6, if_pos c14, if_pos c23]) dX0_point_73
          · rw [X0_point_T, if_neg c2, if_pos c6, if_pos c14, if_neg c23] at hok
            exact absurd hok (by decide)
        · rw [X0_point_T, if_neg c2, if_pos c6, if_neg c14] at hok
          exact absurd hok (by decide)
      · rw [X0_point_T, if_neg c2, if_neg c6] at hok
        exact absurd hok (by decide)
  exact hW _ _ hP hD hS
abbrev rmxX0_point : Room := { frames := 7, cells := 1, slots := 6, locals := 104 }
set_option maxHeartbeats 4000000 in
set_option maxRecDepth 100000 in
theorem cx_X0_point (l : Launch) (hl0 : l.stackTraces = false) (dC : Nat → ClassId) (dI : Nat → Nat → Nat) (cI cZ : ClassId) (h : Nat) (a : Nat → Nat) (qph : AR) (qgr : AR) (qne : AR) (qap : AR) (qle : AR) (qfu : AR) (qpc : Int32) (qgd : Int32) (qri : Int32) (qnw : Int32) (qtk : Int32) (qsv : Int32) (qwa : AR) (qgi : AR) (qlo : AR) (qtu : AR) (n : Nat) (f : Int32) (g : Int32) (hpc : qpc = nI n) (hn : n ≤ 8) (hbad : ¬ X0_point_T qpc n f g = 0) : Kx l yX0_point wsX0_point rmxX0_point dC dI cI cZ [.ref h, .int f, .int g] (xW cI cZ h a qph qgr qne qap qle qfu qpc qgd qri qnw qtk qsv qwa qgi qlo qtu) (fun E => (X0_point_T qpc n f g = 1 ∧ E = nIA) ∨ (X0_point_T qpc n f g = 2 ∧ E = nIS)) := by
  refine k_enter_x (cc := cX0_point) (maxL := 4) (ret := some .int) (by decide) rfl (Nat.le_of_ble_eq_true rfl) ?_
  intro p e s m below meth c A ls hC hlocks htab hK hNs hZ hP hD hS hA hl
  generalize List.toArray _ = args at hC ⊢
  obtain ⟨hx, hb, hml, hown, hts⟩ := id hC
  have hatIS : ∀ w ∈ (vx_atS RX0 62 nIS nms).filter goodWord, w ∈ wsX0_point := by decide +kernel
  have hin : ∀ w ∈ wsX00, w ∈ wsX0_point := by decide +kernel
  have hw0 := hts (.fieldLink RX0 55 "ChargePark" "pointCount" "I") (by decide +kernel)
  have hw1 := hts (.classLink RX0 58 nIS) (by decide +kernel)
  have hw2 := hts (.initialized nIS) (by decide +kernel)
  have hl : lv_has ls 4 [(0, .ref h), (1, .int f), (2, .int g)] := hl
  have hP : va_P (dC, dI) vwCl (xW cI cZ h a qph qgr qne qap qle qfu qpc qgd qri qnw qtk qsv qwa qgi qlo qtu) s.heap := hP
  refine lv_iload_n hx hb dX0_point_0 rfl (lv_at hl 1 rfl) ?_
  refine lv_iconst (v := 3) hx hb dX0_point_1 (by decide) ?_
  refine lv_icmp_eq (tgt := 9) hx hb dX0_point_2 (by decide) (fun c2 => ?_) (fun c2 => ?_)
  · refine lv_iload_n hx hb dX0_point_9 rfl (lv_at hl 2 rfl) ?_
    refine lv_bipush (v := 6) hx hb dX0_point_10 (by decide) ?_
    refine lv_bipush (v := 32) hx hb dX0_point_12 (by decide) ?_
    by_cases c14 : (X0_requireWithin_T g 6 32) = 0
    · refine k_callsv (rest := []) (As := [.int g, .int 6, .int 32]) hC (c_X0_requireWithin l dC dI cI cZ (xW cI cZ h a qph qgr qne qap qle qfu qpc qgd qri qnw qtk qsv qwa qgi qlo qtu) g 6 32 c14) (va_cwS 3 hts gX0_point_X0_requireWithin rfl rfl rfl hd_X0_requireWithin ⟨Nat.le_of_ble_eq_true rfl, Nat.le_of_ble_eq_true rfl⟩) hK hP hD hS hA rfl hl.1 (Nat.le_of_ble_eq_true rfl) dX0_point_14 rfl ⟨Nat.zero_le _, Nat.zero_le _⟩ (fun H locs hP hD hS => ?_)
      refine lv_aload_n hx hb dX0_point_17 rfl (lv_at hl 0 rfl) ?_
      refine va_get (D := (dC, dI)) (ci := 0) (v := .int qpc) (C := RX0) (T := TX0) (N := 16) hx hb hts hin hown hK hP 0 rfl rfl 6 (by decide) hw0 (fun _ h9 => h9) rfl dX0_point_18 ?_
      refine lv_bipush (v := 8) hx hb dX0_point_21 (by decide) ?_
      refine lv_icmp_lt (tgt := 36) hx hb dX0_point_23 (by decide) (fun c23 => ?_) (fun c23 => ?_)
      · exact absurd (by rw [X0_point_T, if_pos c2, if_pos c14, if_pos c23]) hbad
      · exact kx_throw (cls := nIS) hC hl0 (by decide) hw1 hw2 hNs.2.2.2.2.2.2.2.1 (kat_IS hNs (fun w hw => hts w (hatIS w hw))) kg_IS hZ hS hl.1 dX0_point_26 dX0_point_29 dX0_point_30 dX0_point_32 dX0_point_35 htab hlocks (Nat.le_of_ble_eq_true rfl) (Nat.le_of_ble_eq_true rfl) (Nat.le_of_ble_eq_true rfl) (Nat.le_of_ble_eq_true rfl) hP hD (Or.inr (⟨by rw [X0_point_T, if_pos c2, if_pos c14, if_neg c23], rfl⟩))
    · refine kx_callS (rest := []) (As := [.int g, .int 6, .int 32]) hC (cx_X0_requireWithin l hl0 dC dI cI cZ (xW cI cZ h a qph qgr qne qap qle qfu qpc qgd qri qnw qtk qsv qwa qgi qlo qtu) g 6 32 c14) (va_cwS 3 hts gX0_point_X0_requireWithin rfl rfl rfl hd_X0_requireWithin ⟨Nat.le_of_ble_eq_true rfl, Nat.le_of_ble_eq_true rfl⟩) hK hNs hZ hP hD hS hA rfl hl.1 (Nat.le_of_ble_eq_true rfl) dX0_point_14 rfl ⟨Nat.le_of_ble_eq_true rfl, Nat.le_of_ble_eq_true rfl⟩ (fun E ce q H locs hex hP hD hS hcell hv hcl => ?_)
      exact kx_out htab hlocks hcell hv hcl hS hP hD (Or.inl ⟨by rw [X0_point_T, if_pos c2, if_neg c14], hex.2⟩) (Nat.le_of_ble_eq_true rfl) (Nat.le_of_ble_eq_true rfl)
  · refine lv_iload_n hx hb dX0_point_5 rfl (lv_at hl 1 rfl) ?_
    by_cases c6 : (X0_requirePhase_T f) = 0
    · refine k_callsv (rest := []) (As := [.int f]) hC (c_X0_requirePhase l dC dI cI cZ (xW cI cZ h a qph qgr qne qap qle qfu qpc qgd qri qnw qtk qsv qwa qgi qlo qtu) f c6) (va_cwS 1 hts gX0_point_X0_requirePhase rfl rfl rfl hd_X0_requirePhase ⟨Nat.le_of_ble_eq_true rfl, Nat.le_of_ble_eq_true rfl⟩) hK hP hD hS hA rfl hl.1 (Nat.le_of_ble_eq_true rfl) dX0_point_6 rfl ⟨Nat.zero_le _, Nat.zero_le _⟩ (fun H locs hP hD hS => ?_)
      refine lv_iload_n hx hb dX0_point_9 rfl (lv_at hl 2 rfl) ?_
      refine lv_bipush (v := 6) hx hb dX0_point_10 (by decide) ?_
      refine lv_bipush (v := 32) hx hb dX0_point_12 (by decide) ?_
      by_cases c14 : (X0_requireWithin_T g 6 32) = 0
      · refine k_callsv (rest := []) (As := [.int g, .int 6, .int 32]) hC (c_X0_requireWithin l dC dI cI cZ (xW cI cZ h a qph qgr qne qap qle qfu qpc qgd qri qnw qtk qsv qwa qgi qlo qtu) g 6 32 c14) (va_cwS 3 hts gX0_point_X0_requireWithin rfl rfl rfl hd_X0_requireWithin ⟨Nat.le_of_ble_eq_true rfl, Nat.le_of_ble_eq_true rfl⟩) hK hP hD hS hA rfl hl.1 (Nat.le_of_ble_eq_true rfl) dX0_point_14 rfl ⟨Nat.zero_le _, Nat.zero_le _⟩ (fun H locs hP hD hS => ?_)
        refine lv_aload_n hx hb dX0_point_17 rfl (lv_at hl 0 rfl) ?_
        refine va_get (D := (dC, dI)) (ci := 0) (v := .int qpc) (C := RX0) (T := TX0) (N := 16) hx hb hts hin hown hK hP 0 rfl rfl 6 (by decide) hw0 (fun _ h9 => h9) rfl dX0_point_18 ?_
        refine lv_bipush (v := 8) hx hb dX0_point_21 (by decide) ?_
        refine lv_icmp_lt (tgt := 36) hx hb dX0_point_23 (by decide) (fun c23 => ?_) (fun c23 => ?_)
        · exact absurd (by rw [X0_point_T, if_neg c2, if_pos c6, if_pos c14, if_pos c23]) hbad
        · exact kx_throw (cls := nIS) hC hl0 (by decide) hw1 hw2 hNs.2.2.2.2.2.2.2.1 (kat_IS hNs (fun w hw => hts w (hatIS w hw))) kg_IS hZ hS hl.1 dX0_point_26 dX0_point_29 dX0_point_30 dX0_point_32 dX0_point_35 htab hlocks (Nat.le_of_ble_eq_true rfl) (Nat.le_of_ble_eq_true rfl) (Nat.le_of_ble_eq_true rfl) (Nat.le_of_ble_eq_true rfl) hP hD (Or.inr (⟨by rw [X0_point_T, if_neg c2, if_pos c6, if_pos c14, if_neg c23], rfl⟩))
      · refine kx_callS (rest := []) (As := [.int g, .int 6, .int 32]) hC (cx_X0_requireWithin l hl0 dC dI cI cZ (xW cI cZ h a qph qgr qne qap qle qfu qpc qgd qri qnw qtk qsv qwa qgi qlo qtu) g 6 32 c14) (va_cwS 3 hts gX0_point_X0_requireWithin rfl rfl rfl hd_X0_requireWithin ⟨Nat.le_of_ble_eq_true rfl, Nat.le_of_ble_eq_true rfl⟩) hK hNs hZ hP hD hS hA rfl hl.1 (Nat.le_of_ble_eq_true rfl) dX0_point_14 rfl ⟨Nat.le_of_ble_eq_true rfl, Nat.le_of_ble_eq_true rfl⟩ (fun E ce q H locs hex hP hD hS hcell hv hcl => ?_)
        exact kx_out htab hlocks hcell hv hcl hS hP hD (Or.inl ⟨by rw [X0_point_T, if_neg c2, if_pos c6, if_neg c14], hex.2⟩) (Nat.le_of_ble_eq_true rfl) (Nat.le_of_ble_eq_true rfl)
    · refine kx_callS (rest := []) (As := [.int f]) hC (cx_X0_requirePhase l hl0 dC dI cI cZ (xW cI cZ h a qph qgr qne qap qle qfu qpc qgd qri qnw qtk qsv qwa qgi qlo qtu) f c6) (va_cwS 1 hts gX0_point_X0_requirePhase rfl rfl rfl hd_X0_requirePhase ⟨Nat.le_of_ble_eq_true rfl, Nat.le_of_ble_eq_true rfl⟩) hK hNs hZ hP hD hS hA rfl hl.1 (Nat.le_of_ble_eq_true rfl) dX0_point_6 rfl ⟨Nat.le_of_ble_eq_true rfl, Nat.le_of_ble_eq_true rfl⟩ (fun E ce q H locs hex hP hD hS hcell hv hcl => ?_)
      exact kx_out htab hlocks hcell hv hcl hS hP hD (Or.inl ⟨by rw [X0_point_T, if_neg c2, if_neg c6], hex.2⟩) (Nat.le_of_ble_eq_true rfl) (Nat.le_of_ble_eq_true rfl)
def X0_fuse_T (f : Int32) (x : Int32) : Int32 := (if (X0_requirePhase_T f) = 0 then (if (X0_requireWithin_T x 0 100) = 0 then 0 else 1) else 1)
def X0_fuse (qfu : AR) (f : Int32) (x : Int32) : Int32 × AR := (if (X0_requirePhase_T f) = 0 then (if (X0_requireWithin_T x 0 100) = 0 then ((qfu f.toNatClampNeg), (upd qfu f.toNatClampNeg x)) else (0, qfu)) else (0, qfu))
abbrev rmX0_fuse : Room := { frames := 1, cells := 0, slots := 0, locals := 22 }
theorem hd_X0_fuse : yX0_fuse.cls = RX0 ∧ yX0_fuse.cls ≠ "java/lang/invoke/MethodHandle" ∧ yX0_fuse.cls ≠ "java/lang/invoke/VarHandle" ∧ (parseMethodDescriptor yX0_fuse.desc).map (fun d => d.parameters.length) = some 2 := by decide +kernel
set_option maxHeartbeats 4000000 in
set_option maxRecDepth 100000 in
theorem c_X0_fuse (l : Launch) (dC : Nat → ClassId) (dI : Nat → Nat → Nat) (cI cZ : ClassId) (h : Nat) (a : Nat → Nat) (qph : AR) (qgr : AR) (qne : AR) (qap : AR) (qle : AR) (qfu : AR) (qpc : Int32) (qgd : Int32) (qri : Int32) (qnw : Int32) (qtk : Int32) (qsv : Int32) (qwa : AR) (qgi : AR) (qlo : AR) (qtu : AR) (f : Int32) (x : Int32) (hok : X0_fuse_T f x = 0) : Ki l yX0_fuse wsX0_fuse rmX0_fuse dC dI cI cZ [.ref h, .int f, .int x] (xW cI cZ h a qph qgr qne qap qle qfu qpc qgd qri qnw qtk qsv qwa qgi qlo qtu) (xW cI cZ h a qph qgr qne qap qle ((X0_fuse qfu f x).2) qpc qgd qri qnw qtk qsv qwa qgi qlo qtu) (X0_fuse qfu f x).1 := by
  refine k_enter_i (cc := cX0_fuse) (maxL := 4) (ret := some .int) (by decide) rfl (Nat.le_of_ble_eq_true rfl) ?_
  intro p e s m below meth c A ls hC hr hlocks hK hP hD hS hA hl
  generalize List.toArray _ = args at hC ⊢
  obtain ⟨hx, hb, hml, hown, hts⟩ := id hC
  have hret : ∀ (H : Heap) (locs : List Loc) (pc : Nat) (ls : Array Slot) (r : Int32), va_S A s.heap H locs → va_P (dC, dI) vwCl (xW cI cZ h a qph qgr qne qap qle ((X0_fuse qfu f x).2) qpc qgd qri qnw qtk qsv qwa qgi qlo qtu) H → va_D A (xW cI cZ h a qph qgr qne qap qle ((X0_fuse qfu f x).2) qpc qgd qri qnw qtk qsv qwa qgi qlo qtu) → r = (X0_fuse qfu f x).1 → decode cX0_fuse pc = .ok (.ireturn, 1) → W p l e rmX0_fuse s m args below meth c H locs 0 0 (MQ below (va_Qi (fun r (_ : Unit) => r = (X0_fuse qfu f x).1) (kBeh dC dI A (xW cI cZ h a qph qgr qne qap qle ((X0_fuse qfu f x).2) qpc qgd qri qnw qtk qsv qwa qgi qlo qtu)) A) args s 0 0 A) (F0 m pc ls [.int r]) := fun H locs pc ls r hS hP hD hv d => k_iret hx hb hr hlocks hS hP hD hv d
  generalize MQ below _ _ _ _ _ _ = Q at hret ⊢
  have hin : ∀ w ∈ wsX00, w ∈ wsX0_fuse := by decide +kernel
  have hw0 := hts (.fieldLink RX0 37 "ChargePark" "fuseOf" "[I") (by decide +kernel)
  have hl : lv_has ls 4 [(0, .ref h), (1, .int f), (2, .int x)] := hl
  have hP : va_P (dC, dI) vwCl (xW cI cZ h a qph qgr qne qap qle qfu qpc qgd qri qnw qtk qsv qwa qgi qlo qtu) s.heap := hP
  have hW : ∀ (H : Heap) (locs : List Loc), va_P (dC, dI) vwCl (xW cI cZ h a qph qgr qne qap qle qfu qpc qgd qri qnw qtk qsv qwa qgi qlo qtu) H → va_D A (xW cI cZ h a qph qgr qne qap qle qfu qpc qgd qri qnw qtk qsv qwa qgi qlo qtu) → va_S A s.heap H locs → W p l e rmX0_fuse s m args below meth c H locs 0 0 Q (F0 m 0 ls []) := by
    intro H locs hP hD hS
    refine lv_iload_n hx hb dX0_fuse_0 rfl (lv_at hl 1 rfl) ?_
    by_cases c1 : (X0_requirePhase_T f) = 0
    · refine k_callsv (rest := []) (As := [.int f]) hC (c_X0_requirePhase l dC dI cI cZ (xW cI cZ h a qph qgr qne qap qle qfu qpc qgd qri qnw qtk qsv qwa qgi qlo qtu) f c1) (va_cwS 1 hts gX0_fuse_X0_requirePhase rfl rfl rfl hd_X0_requirePhase ⟨Nat.le_of_ble_eq_true rfl, Nat.le_of_ble_eq_true rfl⟩) hK hP hD hS hA rfl hl.1 (Nat.le_of_ble_eq_true rfl) dX0_fuse_1 rfl ⟨Nat.zero_le _, Nat.zero_le _⟩ (fun H locs hP hD hS => ?_)
      refine lv_iload_n hx hb dX0_fuse_4 rfl (lv_at hl 2 rfl) ?_
      refine lv_iconst (v := 0) hx hb dX0_fuse_5 (by decide) ?_
      refine lv_bipush (v := 100) hx hb dX0_fuse_6 (by decide) ?_
      by_cases c8 : (X0_requireWithin_T x 0 100) = 0
      · refine k_callsv (rest := []) (As := [.int x, .int 0, .int 100]) hC (c_X0_requireWithin l dC dI cI cZ (xW cI cZ h a qph qgr qne qap qle qfu qpc qgd qri qnw qtk qsv qwa qgi qlo qtu) x 0 100 c8) (va_cwS 3 hts gX0_fuse_X0_requireWithin rfl rfl rfl hd_X0_requireWithin ⟨Nat.le_of_ble_eq_true rfl, Nat.le_of_ble_eq_true rfl⟩) hK hP hD hS hA rfl hl.1 (Nat.le_of_ble_eq_true rfl) dX0_fuse_8 rfl ⟨Nat.zero_le _, Nat.zero_le _⟩ (fun H locs hP hD hS => ?_)
        refine lv_aload_n hx hb dX0_fuse_11 rfl (lv_at hl 0 rfl) ?_
        refine va_get (D := (dC, dI)) (ci := 0) (v := .ref (a 5)) (C := RX0) (T := TX0) (N := 16) hx hb hts hin hown hK hP 0 rfl rfl 5 (by decide) hw0 (fun _ h9 => h9) rfl dX0_fuse_12 ?_
        refine lv_iload_n hx hb dX0_fuse_15 rfl (lv_at hl 1 rfl) ?_
        refine va_iald (f := qfu) hx hb hK hP 6 0 rfl rfl (rqp_in c1) dX0_fuse_16 ?_
        refine lv_istore_n (lv' := [(3, .int (qfu f.toNatClampNeg)), (0, .ref h), (1, .int f), (2, .int x)]) hx hb dX0_fuse_17 rfl hl (by decide) rfl (fun ls hl => ?_)
        refine lv_aload_n hx hb dX0_fuse_18 rfl (lv_at hl 1 rfl) ?_
        refine va_get (D := (dC, dI)) (ci := 0) (v := .ref (a 5)) (C := RX0) (T := TX0) (N := 16) hx hb hts hin hown hK hP 0 rfl rfl 5 (by decide) hw0 (fun _ h9 => h9) rfl dX0_fuse_19 ?_
        refine lv_iload_n hx hb dX0_fuse_22 rfl (lv_at hl 2 rfl) ?_
        refine lv_iload_n hx hb dX0_fuse_23 rfl (lv_at hl 3 rfl) ?_
        refine va_iast (f := qfu) hx hb hK hP hD hS 6 0 rfl rfl (rqp_in c1) dX0_fuse_24 (fun H locs hP hD hS => ?_)
        obtain ⟨z1, hz1⟩ : ∃ z : AR, z = (upd qfu f.toNatClampNeg x) := ⟨_, rfl⟩
        rw [← hz1] at hP hD
        have hP : va_P (dC, dI) vwCl (xW cI cZ h a qph qgr qne qap qle z1 qpc qgd qri qnw qtk qsv qwa qgi qlo qtu) H := hP
        have hD : va_D A (xW cI cZ h a qph qgr qne qap qle z1 qpc qgd qri qnw qtk qsv qwa qgi qlo qtu) := hD
        refine lv_iload_n hx hb dX0_fuse_25 rfl (lv_at hl 0 rfl) ?_
        have hP9 := hP; have hD9 := hD
        subst hz1
        have hP8 : va_P (dC, dI) vwCl (xW cI cZ h a qph qgr qne qap qle ((X0_fuse qfu f x).2) qpc qgd qri qnw qtk qsv qwa qgi qlo qtu) H := by rw [X0_fuse, if_pos c1, if_pos c8]; exact hP9
        have hD8 : va_D A (xW cI cZ h a qph qgr qne qap qle ((X0_fuse qfu f x).2) qpc qgd qri qnw qtk qsv qwa qgi qlo qtu) := by rw [X0_fuse, if_pos c1, if_pos c8]; exact hD9
        exact hret H locs 26 ls (qfu f.toNatClampNeg) hS hP8 hD8 (by rw [X0_fuse, if_pos c1, if_pos c8]) dX0_fuse_26
      · rw [X0_fuse_T, if_pos c1, if_neg c8] at hok
        exact absurd hok (by decide)
    · rw [X0_fuse_T, if_neg c1] at hok
      exact absurd hok (by decide)
  exact hW _ _ hP hD hS
abbrev rmxX0_fuse : Room := { frames := 7, cells := 1, slots := 6, locals := 104 }
set_option maxHeartbeats 4000000 in
set_option maxRecDepth 100000 in
theorem cx_X0_fuse (l : Launch) (hl0 : l.stackTraces = false) (dC : Nat → ClassId) (dI : Nat → Nat → Nat) (cI cZ : ClassId) (h : Nat) (a : Nat → Nat) (qph : AR) (qgr : AR) (qne : AR) (qap : AR) (qle : AR) (qfu : AR) (qpc : Int32) (qgd : Int32) (qri : Int32) (qnw : Int32) (qtk : Int32) (qsv : Int32) (qwa : AR) (qgi : AR) (qlo : AR) (qtu : AR) (f : Int32) (x : Int32) (hbad : ¬ X0_fuse_T f x = 0) : Kx l yX0_fuse wsX0_fuse rmxX0_fuse dC dI cI cZ [.ref h, .int f, .int x] (xW cI cZ h a qph qgr qne qap qle qfu qpc qgd qri qnw qtk qsv qwa qgi qlo qtu) (fun E => (X0_fuse_T f x = 1 ∧ E = nIA)) := by
  refine k_enter_x (cc := cX0_fuse) (maxL := 4) (ret := some .int) (by decide) rfl (Nat.le_of_ble_eq_true rfl) ?_
  intro p e s m below meth c A ls hC hlocks htab hK hNs hZ hP hD hS hA hl
  generalize List.toArray _ = args at hC ⊢
  obtain ⟨hx, hb, hml, hown, hts⟩ := id hC
  have hl : lv_has ls 4 [(0, .ref h), (1, .int f), (2, .int x)] := hl
  have hP : va_P (dC, dI) vwCl (xW cI cZ h a qph qgr qne qap qle qfu qpc qgd qri qnw qtk qsv qwa qgi qlo qtu) s.heap := hP
  refine lv_iload_n hx hb dX0_fuse_0 rfl (lv_at hl 1 rfl) ?_
  by_cases c1 : (X0_requirePhase_T f) = 0
  · refine k_callsv (rest := []) (As := [.int f]) hC (c_X0_requirePhase l dC dI cI cZ (xW cI cZ h a qph qgr qne qap qle qfu qpc qgd qri qnw qtk qsv qwa qgi qlo qtu) f c1) (va_cwS 1 hts gX0_fuse_X0_requirePhase rfl rfl rfl hd_X0_requirePhase ⟨Nat.le_of_ble_eq_true rfl, Nat.le_of_ble_eq_true rfl⟩) hK hP hD hS hA rfl hl.1 (Nat.le_of_ble_eq_true rfl) dX0_fuse_1 rfl ⟨Nat.zero_le _, Nat.zero_le _⟩ (fun H locs hP hD hS => ?_)
    refine lv_iload_n hx hb dX0_fuse_4 rfl (lv_at hl 2 rfl) ?_
    refine lv_iconst (v := 0) hx hb dX0_fuse_5 (by decide) ?_
    refine lv_bipush (v := 100) hx hb dX0_fuse_6 (by decide) ?_
    by_cases c8 : (X0_requireWithin_T x 0 100) = 0
    · refine k_callsv (rest := []) (As := [.int x, .int 0, .int 100]) hC (c_X0_requireWithin l dC dI cI cZ (xW cI cZ h a qph qgr qne qap qle qfu qpc qgd qri qnw qtk qsv qwa qgi qlo qtu) x 0 100 c8) (va_cwS 3 hts gX0_fuse_X0_requireWithin rfl rfl rfl hd_X0_requireWithin ⟨Nat.le_of_ble_eq_true rfl, Nat.le_of_ble_eq_true rfl⟩) hK hP hD hS hA rfl hl.1 (Nat.le_of_ble_eq_true rfl) dX0_fuse_8 rfl ⟨Nat.zero_le _, Nat.zero_le _⟩ (fun H locs hP hD hS => ?_)
      exact absurd (by rw [X0_fuse_T, if_pos c1, if_pos c8]) hbad
    · refine kx_callS (rest := []) (As := [.int x, .int 0, .int 100]) hC (cx_X0_requireWithin l hl0 dC dI cI cZ (xW cI cZ h a qph qgr qne qap qle qfu qpc qgd qri qnw qtk qsv qwa qgi qlo qtu) x 0 100 c8) (va_cwS 3 hts gX0_fuse_X0_requireWithin rfl rfl rfl hd_X0_requireWithin ⟨Nat.le_of_ble_eq_true rfl, Nat.le_of_ble_eq_true rfl⟩) hK hNs hZ hP hD hS hA rfl hl.1 (Nat.le_of_ble_eq_true rfl) dX0_fuse_8 rfl ⟨Nat.le_of_ble_eq_true rfl, Nat.le_of_ble_eq_true rfl⟩ (fun E ce q H locs hex hP hD hS hcell hv hcl => ?_)
      exact kx_out htab hlocks hcell hv hcl hS hP hD (⟨by rw [X0_fuse_T, if_pos c1, if_neg c8], hex.2⟩) (Nat.le_of_ble_eq_true rfl) (Nat.le_of_ble_eq_true rfl)
  · refine kx_callS (rest := []) (As := [.int f]) hC (cx_X0_requirePhase l hl0 dC dI cI cZ (xW cI cZ h a qph qgr qne qap qle qfu qpc qgd qri qnw qtk qsv qwa qgi qlo qtu) f c1) (va_cwS 1 hts gX0_fuse_X0_requirePhase rfl rfl rfl hd_X0_requirePhase ⟨Nat.le_of_ble_eq_true rfl, Nat.le_of_ble_eq_true rfl⟩) hK hNs hZ hP hD hS hA rfl hl.1 (Nat.le_of_ble_eq_true rfl) dX0_fuse_1 rfl ⟨Nat.le_of_ble_eq_true rfl, Nat.le_of_ble_eq_true rfl⟩ (fun E ce q H locs hex hP hD hS hcell hv hcl => ?_)
    exact kx_out htab hlocks hcell hv hcl hS hP hD (⟨by rw [X0_fuse_T, if_neg c1], hex.2⟩) (Nat.le_of_ble_eq_true rfl) (Nat.le_of_ble_eq_true rfl)
def X0_balance_T (x : Int32) : Int32 := (if (X0_requireWithin_T x 0 100) = 0 then 0 else 1)
def X0_balance (qgd : Int32) (x : Int32) : Int32 × Int32 := (if (X0_requireWithin_T x 0 100) = 0 then (qgd, x) else (0, qgd))
abbrev rmX0_balance : Room := { frames := 1, cells := 0, slots := 0, locals := 22 }
theorem hd_X0_balance : yX0_balance.cls = RX0 ∧ yX0_balance.cls ≠ "java/lang/invoke/MethodHandle" ∧ yX0_balance.cls ≠ "java/lang/invoke/VarHandle" ∧ (parseMethodDescriptor yX0_balance.desc).map (fun d => d.parameters.length) = some 1 := by decide +kernel
set_option maxHeartbeats 4000000 in
set_option maxRecDepth 100000 in
theorem c_X0_balance (l : Launch) (dC : Nat → ClassId) (dI : Nat → Nat → Nat) (cI cZ : ClassId) (h : Nat) (a : Nat → Nat) (qph : AR) (qgr : AR) (qne : AR) (qap : AR) (qle : AR) (qfu : AR) (qpc : Int32) (qgd : Int32) (qri : Int32) (qnw : Int32) (qtk : Int32) (qsv : Int32) (qwa : AR) (qgi : AR) (qlo : AR) (qtu : AR) (x : Int32) (hok : X0_balance_T x = 0) : Ki l yX0_balance wsX0_balance rmX0_balance dC dI cI cZ [.ref h, .int x] (xW cI cZ h a qph qgr qne qap qle qfu qpc qgd qri qnw qtk qsv qwa qgi qlo qtu) (xW cI cZ h a qph qgr qne qap qle qfu qpc ((X0_balance qgd x).2) qri qnw qtk qsv qwa qgi qlo qtu) (X0_balance qgd x).1 := by
  refine k_enter_i (cc := cX0_balance) (maxL := 3) (ret := some .int) (by decide) rfl (Nat.le_of_ble_eq_true rfl) ?_
  intro p e s m below meth c A ls hC hr hlocks hK hP hD hS hA hl
  generalize List.toArray _ = args at hC ⊢
  obtain ⟨hx, hb, hml, hown, hts⟩ := id hC
  have hret : ∀ (H : Heap) (locs : List Loc) (pc : Nat) (ls : Array Slot) (r : Int32), va_S A s.heap H locs → va_P (dC, dI) vwCl (xW cI cZ h a qph qgr qne qap qle qfu qpc ((X0_balance qgd x).2) qri qnw qtk qsv qwa qgi qlo qtu) H → va_D A (xW cI cZ h a qph qgr qne qap qle qfu qpc ((X0_balance qgd x).2) qri qnw qtk qsv qwa qgi qlo qtu) → r = (X0_balance qgd x).1 → decode cX0_balance pc = .ok (.ireturn, 1) → W p l e rmX0_balance s m args below meth c H locs 0 0 (MQ below (va_Qi (fun r (_ : Unit) => r = (X0_balance qgd x).1) (kBeh dC dI A (xW cI cZ h a qph qgr qne qap qle qfu qpc ((X0_balance qgd x).2) qri qnw qtk qsv qwa qgi qlo qtu)) A) args s 0 0 A) (F0 m pc ls [.int r]) := fun H locs pc ls r hS hP hD hv d => k_iret hx hb hr hlocks hS hP hD hv d
  generalize MQ below _ _ _ _ _ _ = Q at hret ⊢
  have hin : ∀ w ∈ wsX00, w ∈ wsX0_balance := by decide +kernel
  have hw0 := hts (.fieldLink RX0 40 "ChargePark" "greatestDifference" "I") (by decide +kernel)
  have hl : lv_has ls 3 [(0, .ref h), (1, .int x)] := hl
  have hP : va_P (dC, dI) vwCl (xW cI cZ h a qph qgr qne qap qle qfu qpc qgd qri qnw qtk qsv qwa qgi qlo qtu) s.heap := hP
  have hW : ∀ (H : Heap) (locs : List Loc), va_P (dC, dI) vwCl (xW cI cZ h a qph qgr qne qap qle qfu qpc qgd qri qnw qtk qsv qwa qgi qlo qtu) H → va_D A (xW cI cZ h a qph qgr qne qap qle qfu qpc qgd qri qnw qtk qsv qwa qgi qlo qtu) → va_S A s.heap H locs → W p l e rmX0_balance s m args below meth c H locs 0 0 Q (F0 m 0 ls []) := by
    intro H locs hP hD hS
    refine lv_iload_n hx hb dX0_balance_0 rfl (lv_at hl 1 rfl) ?_
    refine lv_iconst (v := 0) hx hb dX0_balance_1 (by decide) ?_
    refine lv_bipush (v := 100) hx hb dX0_balance_2 (by decide) ?_
    by_cases c4 : (X0_requireWithin_T x 0 100) = 0
    · refine k_callsv (rest := []) (As := [.int x, .int 0, .int 100]) hC (c_X0_requireWithin l dC dI cI cZ (xW cI cZ h a qph qgr qne qap qle qfu qpc qgd qri qnw qtk qsv qwa qgi qlo qtu) x 0 100 c4) (va_cwS 3 hts gX0_balance_X0_requireWithin rfl rfl rfl hd_X0_requireWithin ⟨Nat.le_of_ble_eq_true rfl, Nat.le_of_ble_eq_true rfl⟩) hK hP hD hS hA rfl hl.1 (Nat.le_of_ble_eq_true rfl) dX0_balance_4 rfl ⟨Nat.zero_le _, Nat.zero_le _⟩ (fun H locs hP hD hS => ?_)
      refine lv_aload_n hx hb dX0_balance_7 rfl (lv_at hl 0 rfl) ?_
      refine va_get (D := (dC, dI)) (ci := 0) (v := .int qgd) (C := RX0) (T := TX0) (N := 16) hx hb hts hin hown hK hP 0 rfl rfl 7 (by decide) hw0 (fun _ h9 => h9) rfl dX0_balance_8 ?_
      refine lv_istore_n (lv' := [(2, .int qgd), (0, .ref h), (1, .int x)]) hx hb dX0_balance_11 rfl hl (by decide) rfl (fun ls hl => ?_)
      refine lv_aload_n hx hb dX0_balance_12 rfl (lv_at hl 1 rfl) ?_
      refine lv_iload_n hx hb dX0_balance_13 rfl (lv_at hl 2 rfl) ?_
      refine va_put (D := (dC, dI)) (ci := 0) (v := .int x) (ty := .int) (C := RX0) (T := TX0) (N := 16) hx hb hts hin tyX0 tyX0_ok nmX0 hown hK hP hD hS 0 rfl rfl 7 (by decide) hw0 (fun _ h9 => h9) rfl xfd7 rfl rfl (Nat.le_of_ble_eq_true rfl) dX0_balance_14 (fun H locs hP hD hS => ?_)
      have hP : va_P (dC, dI) vwCl (xW cI cZ h a qph qgr qne qap qle qfu qpc x qri qnw qtk qsv qwa qgi qlo qtu) H := hP
      have hD : va_D A (xW cI cZ h a qph qgr qne qap qle qfu qpc x qri qnw qtk qsv qwa qgi qlo qtu) := hD
      refine lv_iload_n hx hb dX0_balance_17 rfl (lv_at hl 0 rfl) ?_
      have hP8 : va_P (dC, dI) vwCl (xW cI cZ h a qph qgr qne qap qle qfu qpc ((X0_balance qgd x).2) qri qnw qtk qsv qwa qgi qlo qtu) H := by rw [X0_balance, if_pos c4]; exact hP
      have hD8 : va_D A (xW cI cZ h a qph qgr qne qap qle qfu qpc ((X0_balance qgd x).2) qri qnw qtk qsv qwa qgi qlo qtu) := by rw [X0_balance, if_pos c4]; exact hD
      exact hret H locs 18 ls qgd hS hP8 hD8 (by rw [X0_balance, if_pos c4]) dX0_balance_18
    · rw [X0_balance_T, if_neg c4] at hok
      exact absurd hok (by decide)
  exact hW _ _ hP hD hS
abbrev rmxX0_balance : Room := { frames := 7, cells := 1, slots := 6, locals := 104 }
set_option maxHeartbeats 4000000 in
set_option maxRecDepth 100000 in
theorem cx_X0_balance (l : Launch) (hl0 : l.stackTraces = false) (dC : Nat → ClassId) (dI : Nat → Nat → Nat) (cI cZ : ClassId) (h : Nat) (a : Nat → Nat) (qph : AR) (qgr : AR) (qne : AR) (qap : AR) (qle : AR) (qfu : AR) (qpc : Int32) (qgd : Int32) (qri : Int32) (qnw : Int32) (qtk : Int32) (qsv : Int32) (qwa : AR) (qgi : AR) (qlo : AR) (qtu : AR) (x : Int32) (hbad : ¬ X0_balance_T x = 0) : Kx l yX0_balance wsX0_balance rmxX0_balance dC dI cI cZ [.ref h, .int x] (xW cI cZ h a qph qgr qne qap qle qfu qpc qgd qri qnw qtk qsv qwa qgi qlo qtu) (fun E => (X0_balance_T x = 1 ∧ E = nIA)) := by
  refine k_enter_x (cc := cX0_balance) (maxL := 3) (ret := some .int) (by decide) rfl (Nat.le_of_ble_eq_true rfl) ?_
  intro p e s m below meth c A ls hC hlocks htab hK hNs hZ hP hD hS hA hl
  generalize List.toArray _ = args at hC ⊢
  obtain ⟨hx, hb, hml, hown, hts⟩ := id hC
  have hl : lv_has ls 3 [(0, .ref h), (1, .int x)] := hl
  have hP : va_P (dC, dI) vwCl (xW cI cZ h a qph qgr qne qap qle qfu qpc qgd qri qnw qtk qsv qwa qgi qlo qtu) s.heap := hP
  refine lv_iload_n hx hb dX0_balance_0 rfl (lv_at hl 1 rfl) ?_
  refine lv_iconst (v := 0) hx hb dX0_balance_1 (by decide) ?_
  refine lv_bipush (v := 100) hx hb dX0_balance_2 (by decide) ?_
  by_cases c4 : (X0_requireWithin_T x 0 100) = 0
  · refine k_callsv (rest := []) (As := [.int x, .int 0, .int 100]) hC (c_X0_requireWithin l dC dI cI cZ (xW cI cZ h a qph qgr qne qap qle qfu qpc qgd qri qnw qtk qsv qwa qgi qlo qtu) x 0 100 c4) (va_cwS 3 hts gX0_balance_X0_requireWithin rfl rfl rfl hd_X0_requireWithin ⟨Nat.le_of_ble_eq_true rfl, Nat.le_of_ble_eq_true rfl⟩) hK hP hD hS hA rfl hl.1 (Nat.le_of_ble_eq_true rfl) dX0_balance_4 rfl ⟨Nat.zero_le _, Nat.zero_le _⟩ (fun H locs hP hD hS => ?_)
    exact absurd (by rw [X0_balance_T, if_pos c4]) hbad
  · refine kx_callS (rest := []) (As := [.int x, .int 0, .int 100]) hC (cx_X0_requireWithin l hl0 dC dI cI cZ (xW cI cZ h a qph qgr qne qap qle qfu qpc qgd qri qnw qtk qsv qwa qgi qlo qtu) x 0 100 c4) (va_cwS 3 hts gX0_balance_X0_requireWithin rfl rfl rfl hd_X0_requireWithin ⟨Nat.le_of_ble_eq_true rfl, Nat.le_of_ble_eq_true rfl⟩) hK hNs hZ hP hD hS hA rfl hl.1 (Nat.le_of_ble_eq_true rfl) dX0_balance_4 rfl ⟨Nat.le_of_ble_eq_true rfl, Nat.le_of_ble_eq_true rfl⟩ (fun E ce q H locs hex hP hD hS hcell hv hcl => ?_)
    exact kx_out htab hlocks hcell hv hcl hS hP hD (⟨by rw [X0_balance_T, if_neg c4], hex.2⟩) (Nat.le_of_ble_eq_true rfl) (Nat.le_of_ble_eq_true rfl)
def X0_rule_T (x : Int32) : Int32 := (if (X0_requireWithin_T x 0 1) = 0 then 0 else 1)
def X0_rule (qri : Int32) (x : Int32) : Int32 × Int32 := (if (X0_requireWithin_T x 0 1) = 0 then (qri, x) else (0, qri))
abbrev rmX0_rule : Room := { frames := 1, cells := 0, slots := 0, locals := 22 }
theorem hd_X0_rule : yX0_rule.cls = RX0 ∧ yX0_rule.cls ≠ "java/lang/invoke/MethodHandle" ∧ yX0_rule.cls ≠ "java/lang/invoke/VarHandle" ∧ (parseMethodDescriptor yX0_rule.desc).map (fun d => d.parameters.length) = some 1 := by decide +kernel
set_option maxHeartbeats 4000000 in
set_option maxRecDepth 100000 in
theorem c_X0_rule (l : Launch) (dC : Nat → ClassId) (dI : Nat → Nat → Nat) (cI cZ : ClassId) (h : Nat) (a : Nat → Nat) (qph : AR) (qgr : AR) (qne : AR) (qap : AR) (qle : AR) (qfu : AR) (qpc : Int32) (qgd : Int32) (qri : Int32) (qnw : Int32) (qtk : Int32) (qsv : Int32) (qwa : AR) (qgi : AR) (qlo : AR) (qtu : AR) (x : Int32) (hok : X0_rule_T x = 0) : Ki l yX0_rule wsX0_rule rmX0_rule dC dI cI cZ [.ref h, .int x] (xW cI cZ h a qph qgr qne qap qle qfu qpc qgd qri qnw qtk qsv qwa qgi qlo qtu) (xW cI cZ h a qph qgr qne qap qle qfu qpc qgd ((X0_rule qri x).2) qnw qtk qsv qwa qgi qlo qtu) (X0_rule qri x).1 := by
  refine k_enter_i (cc := cX0_rule) (maxL := 3) (ret := some .int) (by decide) rfl (Nat.le_of_ble_eq_true rfl) ?_
  intro p e s m below meth c A ls hC hr hlocks hK hP hD hS hA hl
  generalize List.toArray _ = args at hC ⊢
  obtain ⟨hx, hb, hml, hown, hts⟩ := id hC
  have hret : ∀ (H : Heap) (locs : List Loc) (pc : Nat) (ls : Array Slot) (r : Int32), va_S A s.heap H locs → va_P (dC, dI) vwCl (xW cI cZ h a qph qgr qne qap qle qfu qpc qgd ((X0_rule qri x).2) qnw qtk qsv qwa qgi qlo qtu) H → va_D A (xW cI cZ h a qph qgr qne qap qle qfu qpc qgd ((X0_rule qri x).2) qnw qtk qsv qwa qgi qlo qtu) → r = (X0_rule qri x).1 → decode cX0_rule pc = .ok (.ireturn, 1) → W p l e rmX0_rule s m args below meth c H locs 0 0 (MQ below (va_Qi (fun r (_ : Unit) => r = (X0_rule qri x).1) (kBeh dC dI A (xW cI cZ h a qph qgr qne qap qle qfu qpc qgd ((X0_rule qri x).2) qnw qtk qsv qwa qgi qlo qtu)) A) args s 0 0 A) (F0 m pc ls [.int r]) := fun H locs pc ls r hS hP hD hv d => k_iret hx hb hr hlocks hS hP hD hv d
  generalize MQ below _ _ _ _ _ _ = Q at hret ⊢
  have hin : ∀ w ∈ wsX00, w ∈ wsX0_rule := by decide +kernel
  have hw0 := hts (.fieldLink RX0 44 "ChargePark" "ruleInUse" "I") (by decide +kernel)
  have hl : lv_has ls 3 [(0, .ref h), (1, .int x)] := hl
  have hP : va_P (dC, dI) vwCl (xW cI cZ h a qph qgr qne qap qle qfu qpc qgd qri qnw qtk qsv qwa qgi qlo qtu) s.heap := hP
  have hW : ∀ (H : Heap) (locs : List Loc), va_P (dC, dI) vwCl (xW cI cZ h a qph qgr qne qap qle qfu qpc qgd qri qnw qtk qsv qwa qgi qlo qtu) H → va_D A (xW cI cZ h a qph qgr qne qap qle qfu qpc qgd qri qnw qtk qsv qwa qgi qlo qtu) → va_S A s.heap H locs → W p l e rmX0_rule s m args below meth c H locs 0 0 Q (F0 m 0 ls []) := by
    intro H locs hP hD hS
    refine lv_iload_n hx hb dX0_rule_0 rfl (lv_at hl 1 rfl) ?_
    refine lv_iconst (v := 0) hx hb dX0_rule_1 (by decide) ?_
    refine lv_iconst (v := 1) hx hb dX0_rule_2 (by decide) ?_
    by_cases c3 : (X0_requireWithin_T x 0 1) = 0
    · refine k_callsv (rest := []) (As := [.int x, .int 0, .int 1]) hC (c_X0_requireWithin l dC dI cI cZ (xW cI cZ h a qph qgr qne qap qle qfu qpc qgd qri qnw qtk qsv qwa qgi qlo qtu) x 0 1 c3) (va_cwS 3 hts gX0_rule_X0_requireWithin rfl rfl rfl hd_X0_requireWithin ⟨Nat.le_of_ble_eq_true rfl, Nat.le_of_ble_eq_true rfl⟩) hK hP hD hS hA rfl hl.1 (Nat.le_of_ble_eq_true rfl) dX0_rule_3 rfl ⟨Nat.zero_le _, Nat.zero_le _⟩ (fun H locs hP hD hS => ?_)
      refine lv_aload_n hx hb dX0_rule_6 rfl (lv_at hl 0 rfl) ?_
      refine va_get (D := (dC, dI)) (ci := 0) (v := .int qri) (C := RX0) (T := TX0) (N := 16) hx hb hts hin hown hK hP 0 rfl rfl 8 (by decide) hw0 (fun _ h9 => h9) rfl dX0_rule_7 ?_
      refine lv_istore_n (lv' := [(2, .int qri), (0, .ref h), (1, .int x)]) hx hb dX0_rule_10 rfl hl (by decide) rfl (fun ls hl => ?_)
      refine lv_aload_n hx hb dX0_rule_11 rfl (lv_at hl 1 rfl) ?_
      refine lv_iload_n hx hb dX0_rule_12 rfl (lv_at hl 2 rfl) ?_
      refine va_put (D := (dC, dI)) (ci := 0) (v := .int x) (ty := .int) (C := RX0) (T := TX0) (N := 16) hx hb hts hin tyX0 tyX0_ok nmX0 hown hK hP hD hS 0 rfl rfl 8 (by decide) hw0 (fun _ h9 => h9) rfl xfd8 rfl rfl (Nat.le_of_ble_eq_true rfl) dX0_rule_13 (fun H locs hP hD hS => ?_)
      have hP : va_P (dC, dI) vwCl (xW cI cZ h a qph qgr qne qap qle qfu qpc qgd x qnw qtk qsv qwa qgi qlo qtu) H := hP
      have hD : va_D A (xW cI cZ h a qph qgr qne qap qle qfu qpc qgd x qnw qtk qsv qwa qgi qlo qtu) := hD
      refine lv_iload_n hx hb dX0_rule_16 rfl (lv_at hl 0 rfl) ?_
      have hP8 : va_P (dC, dI) vwCl (xW cI cZ h a qph qgr qne qap qle qfu qpc qgd ((X0_rule qri x).2) qnw qtk qsv qwa qgi qlo qtu) H := by rw [X0_rule, if_pos c3]; exact hP
      have hD8 : va_D A (xW cI cZ h a qph qgr qne qap qle qfu qpc qgd ((X0_rule qri x).2) qnw qtk qsv qwa qgi qlo qtu) := by rw [X0_rule, if_pos c3]; exact hD
      exact hret H locs 17 ls qri hS hP8 hD8 (by rw [X0_rule, if_pos c3]) dX0_rule_17
    · rw [X0_rule_T, if_neg c3] at hok
      exact absurd hok (by decide)
  exact hW _ _ hP hD hS
abbrev rmxX0_rule : Room := { frames := 7, cells := 1, slots := 6, locals := 104 }
set_option maxHeartbeats 4000000 in
set_option maxRecDepth 100000 in
theorem cx_X0_rule (l : Launch) (hl0 : l.stackTraces = false) (dC : Nat → ClassId) (dI : Nat → Nat → Nat) (cI cZ : ClassId) (h : Nat) (a : Nat → Nat) (qph : AR) (qgr : AR) (qne : AR) (qap : AR) (qle : AR) (qfu : AR) (qpc : Int32) (qgd : Int32) (qri : Int32) (qnw : Int32) (qtk : Int32) (qsv : Int32) (qwa : AR) (qgi : AR) (qlo : AR) (qtu : AR) (x : Int32) (hbad : ¬ X0_rule_T x = 0) : Kx l yX0_rule wsX0_rule rmxX0_rule dC dI cI cZ [.ref h, .int x] (xW cI cZ h a qph qgr qne qap qle qfu qpc qgd qri qnw qtk qsv qwa qgi qlo qtu) (fun E => (X0_rule_T x = 1 ∧ E = nIA)) := by
  refine k_enter_x (cc := cX0_rule) (maxL := 3) (ret := some .int) (by decide) rfl (Nat.le_of_ble_eq_true rfl) ?_
  intro p e s m below meth c A ls hC hlocks htab hK hNs hZ hP hD hS hA hl
  generalize List.toArray _ = args at hC ⊢
  obtain ⟨hx, hb, hml, hown, hts⟩ := id hC
  have hl : lv_has ls 3 [(0, .ref h), (1, .int x)] := hl
  have hP : va_P (dC, dI) vwCl (xW cI cZ h a qph qgr qne qap qle qfu qpc qgd qri qnw qtk qsv qwa qgi qlo qtu) s.heap := hP
  refine lv_iload_n hx hb dX0_rule_0 rfl (lv_at hl 1 rfl) ?_
  refine lv_iconst (v := 0) hx hb dX0_rule_1 (by decide) ?_
  refine lv_iconst (v := 1) hx hb dX0_rule_2 (by decide) ?_
  by_cases c3 : (X0_requireWithin_T x 0 1) = 0
  · refine k_callsv (rest := []) (As := [.int x, .int 0, .int 1]) hC (c_X0_requireWithin l dC dI cI cZ (xW cI cZ h a qph qgr qne qap qle qfu qpc qgd qri qnw qtk qsv qwa qgi qlo qtu) x 0 1 c3) (va_cwS 3 hts gX0_rule_X0_requireWithin rfl rfl rfl hd_X0_requireWithin ⟨Nat.le_of_ble_eq_true rfl, Nat.le_of_ble_eq_true rfl⟩) hK hP hD hS hA rfl hl.1 (Nat.le_of_ble_eq_true rfl) dX0_rule_3 rfl ⟨Nat.zero_le _, Nat.zero_le _⟩ (fun H locs hP hD hS => ?_)
    exact absurd (by rw [X0_rule_T, if_pos c3]) hbad
  · refine kx_callS (rest := []) (As := [.int x, .int 0, .int 1]) hC (cx_X0_requireWithin l hl0 dC dI cI cZ (xW cI cZ h a qph qgr qne qap qle qfu qpc qgd qri qnw qtk qsv qwa qgi qlo qtu) x 0 1 c3) (va_cwS 3 hts gX0_rule_X0_requireWithin rfl rfl rfl hd_X0_requireWithin ⟨Nat.le_of_ble_eq_true rfl, Nat.le_of_ble_eq_true rfl⟩) hK hNs hZ hP hD hS hA rfl hl.1 (Nat.le_of_ble_eq_true rfl) dX0_rule_3 rfl ⟨Nat.le_of_ble_eq_true rfl, Nat.le_of_ble_eq_true rfl⟩ (fun E ce q H locs hex hP hD hS hcell hv hcl => ?_)
    exact kx_out htab hlocks hcell hv hcl hS hP hD (⟨by rw [X0_rule_T, if_neg c3], hex.2⟩) (Nat.le_of_ble_eq_true rfl) (Nat.le_of_ble_eq_true rfl)
def X0_plugIn_T (qne : AR) (qpc : Int32) (n : Nat) (i : Int32) (nd : Int32) (at_ : Int32) (sp : Int32) : Int32 := (if (X0_requirePoint_T qpc i) = 0 then (if (X0_requireWithin_T nd 1 5000) = 0 then (if (X0_requireWithin_T at_ 1 32) = 0 then (if (X0_requireWithin_T sp 1 500) = 0 then (if (X0_hasCar qne i) = 0 then 0 else 3) else 2) else 2) else 2) else 1)
def X0_plugIn (qph : AR) (qgr : AR) (qne : AR) (qap : AR) (qle : AR) (qpc : Int32) (qnw : Int32) (n : Nat) (i : Int32) (nd : Int32) (at_ : Int32) (sp : Int32) : Int32 × AR × AR × AR := (if (X0_requirePoint_T qpc i) = 0 then (if (X0_requireWithin_T nd 1 5000) = 0 then (if (X0_requireWithin_T at_ 1 32) = 0 then (if (X0_requireWithin_T sp 1 500) = 0 then (if (X0_hasCar qne i) = 0 then ((X0_laxityAt qph qgr (upd qne i.toNatClampNeg nd) (upd qap i.toNatClampNeg at_) (upd qle i.toNatClampNeg (qnw + sp)) qnw i), (upd qne i.toNatClampNeg nd), (upd qap i.toNatClampNeg at_), (upd qle i.toNatClampNeg (qnw + sp))) else (0, qne, qap, qle)) else (0, qne, qap, qle)) else (0, qne, qap, qle)) else (0, qne, qap, qle)) else (0, qne, qap, qle))
abbrev rmX0_plugIn : Room := { frames := 3, cells := 0, slots := 0, locals := 56 }
theorem hd_X0_plugIn : yX0_plugIn.cls = RX0 ∧ yX0_plugIn.cls ≠ "java/lang/invoke/MethodHandle" ∧ yX0_plugIn.cls ≠ "java/lang/invoke/VarHandle" ∧ (parseMethodDescriptor yX0_plugIn.desc).map (fun d => d.parameters.length) = some 4 := by decide +kernel
set_option maxHeartbeats 4000000 in
set_option maxRecDepth 100000 in
theorem c_X0_plugIn (l : Launch) (dC : Nat → ClassId) (dI : Nat → Nat → Nat) (cI cZ : ClassId) (h : Nat) (a : Nat → Nat) (qph : AR) (qgr : AR) (qne : AR) (qap : AR) (qle : AR) (qfu : AR) (qpc : Int32) (qgd : Int32) (qri : Int32) (qnw : Int32) (qtk : Int32) (qsv : Int32) (qwa : AR) (qgi : AR) (qlo : AR) (qtu : AR) (n : Nat) (i : Int32) (nd : Int32) (at_ : Int32) (sp : Int32) (hpc : qpc = nI n) (hn : n ≤ 8) (hok : X0_plugIn_T qne qpc n i nd at_ sp = 0) : Ki l yX0_plugIn wsX0_plugIn rmX0_plugIn dC dI cI cZ [.ref h, .int i, .int nd, .int at_, .int sp] (xW cI cZ h a qph qgr qne qap qle qfu qpc qgd qri qnw qtk qsv qwa qgi qlo qtu) (xW cI cZ h a qph qgr ((X0_plugIn qph qgr qne qap qle qpc qnw n i nd at_ sp).2.1) ((X0_plugIn qph qgr qne qap qle qpc qnw n i nd at_ sp).2.2.1) ((X0_plugIn qph qgr qne qap qle qpc qnw n i nd at_ sp).2.2.2) qfu qpc qgd qri qnw qtk qsv qwa qgi qlo qtu) (X0_plugIn qph qgr qne qap qle qpc qnw n i nd at_ sp).1 := by
  refine k_enter_i (cc := cX0_plugIn) (maxL := 5) (ret := some .int) (by decide) rfl (Nat.le_of_ble_eq_true rfl) ?_
  intro p e s m below meth c A ls hC hr hlocks hK hP hD hS hA hl
  generalize List.toArray _ = args at hC ⊢
  obtain ⟨hx, hb, hml, hown, hts⟩ := id hC
  have hret : ∀ (H : Heap) (locs : List Loc) (pc : Nat) (ls : Array Slot) (r : Int32), va_S A s.heap H locs → va_P (dC, dI) vwCl (xW cI cZ h a qph qgr ((X0_plugIn qph qgr qne qap qle qpc qnw n i nd at_ sp).2.1) ((X0_plugIn qph qgr qne qap qle qpc qnw n i nd at_ sp).2.2.1) ((X0_plugIn qph qgr qne qap qle qpc qnw n i nd at_ sp).2.2.2) qfu qpc qgd qri qnw qtk qsv qwa qgi qlo qtu) H → va_D A (xW cI cZ h a qph qgr ((X0_plugIn qph qgr qne qap qle qpc qnw n i nd at_ sp).2.1) ((X0_plugIn qph qgr qne qap qle qpc qnw n i nd at_ sp).2.2.1) ((X0_plugIn qph qgr qne qap qle qpc qnw n i nd at_ sp).2.2.2) qfu qpc qgd qri qnw qtk qsv qwa qgi qlo qtu) → r = (X0_plugIn qph qgr qne qap qle qpc qnw n i nd at_ sp).1 → decode cX0_plugIn pc = .ok (.ireturn, 1) → W p l e rmX0_plugIn s m args below meth c H locs 0 0 (MQ below (va_Qi (fun r (_ : Unit) => r = (X0_plugIn qph qgr qne qap qle qpc qnw n i nd at_ sp).1) (kBeh dC dI A (xW cI cZ h a qph qgr ((X0_plugIn qph qgr qne qap qle qpc qnw n i nd at_ sp).2.1) ((X0_plugIn qph qgr qne qap qle qpc qnw n i nd at_ sp).2.2.1) ((X0_plugIn qph qgr qne qap qle qpc qnw n i nd at_ sp).2.2.2) qfu qpc qgd qri qnw qtk qsv qwa qgi qlo qtu)) A) args s 0 0 A) (F0 m pc ls [.int r]) := fun H locs pc ls r hS hP hD hv d => k_iret hx hb hr hlocks hS hP hD hv d
  generalize MQ below _ _ _ _ _ _ = Q at hret ⊢
  have hin : ∀ w ∈ wsX00, w ∈ wsX0_plugIn := by decide +kernel
  have hw0 := hts (.fieldLink RX0 16 "ChargePark" "needOf" "[I") (by decide +kernel)
  have hw1 := hts (.fieldLink RX0 19 "ChargePark" "appetiteOf" "[I") (by decide +kernel)
  have hw2 := hts (.fieldLink RX0 22 "ChargePark" "leavesAt" "[I") (by decide +kernel)
  have hw3 := hts (.fieldLink RX0 74 "ChargePark" "now" "I") (by decide +kernel)
  have hl : lv_has ls 5 [(0, .ref h), (1, .int i), (2, .int nd), (3, .int at_), (4, .int sp)] := hl
  have hP : va_P (dC, dI) vwCl (xW cI cZ h a qph qgr qne qap qle qfu qpc qgd qri qnw qtk qsv qwa qgi qlo qtu) s.heap := hP
  have hW : ∀ (H : Heap) (locs : List Loc), va_P (dC, dI) vwCl (xW cI cZ h a qph qgr qne qap qle qfu qpc qgd qri qnw qtk qsv qwa qgi qlo qtu) H → va_D A (xW cI cZ h a qph qgr qne qap qle qfu qpc qgd qri qnw qtk qsv qwa qgi qlo qtu) → va_S A s.heap H locs → W p l e rmX0_plugIn s m args below meth c H locs 0 0 Q (F0 m 0 ls []) := by
    intro H locs hP hD hS
    refine lv_aload_n hx hb dX0_plugIn_0 rfl (lv_at hl 0 rfl) ?_
    refine lv_iload_n hx hb dX0_plugIn_1 rfl (lv_at hl 1 rfl) ?_
    by_cases c2 : (X0_requirePoint_T qpc i) = 0
    · refine k_callv (rest := []) (q0 := 0) hC (c_X0_requirePoint l dC dI cI cZ h a qph qgr qne qap qle qfu qpc qgd qri qnw qtk qsv qwa qgi qlo qtu  i c2) (cwV 1 hts gX0_plugIn_X0_requirePoint rfl rfl rfl hd_X0_requirePoint ⟨Nat.le_of_ble_eq_true rfl, Nat.le_of_ble_eq_true rfl⟩) hK hP hD hS hA rfl rfl rfl hl.1 (Nat.le_of_ble_eq_true rfl) dX0_plugIn_2 rfl ⟨Nat.zero_le _, Nat.zero_le _⟩ (fun H locs hP hD hS => ?_)
      refine lv_iload_n hx hb dX0_plugIn_5 rfl (lv_at hl 2 rfl) ?_
      refine lv_iconst (v := 1) hx hb dX0_plugIn_6 (by decide) ?_
      refine lv_sipush (v := 5000) hx hb dX0_plugIn_7 (by decide) ?_
      by_cases c10 : (X0_requireWithin_T nd 1 5000) = 0
      · refine k_callsv (rest := []) (As := [.int nd, .int 1, .int 5000]) hC (c_X0_requireWithin l dC dI cI cZ (xW cI cZ h a qph qgr qne qap qle qfu qpc qgd qri qnw qtk qsv qwa qgi qlo qtu) nd 1 5000 c10) (va_cwS 3 hts gX0_plugIn_X0_requireWithin rfl rfl rfl hd_X0_requireWithin ⟨Nat.le_of_ble_eq_true rfl, Nat.le_of_ble_eq_true rfl⟩) hK hP hD hS hA rfl hl.1 (Nat.le_of_ble_eq_true rfl) dX0_plugIn_10 rfl ⟨Nat.zero_le _, Nat.zero_le _⟩ (fun H locs hP hD hS => ?_)
        refine lv_iload_n hx hb dX0_plugIn_13 rfl (lv_at hl 3 rfl) ?_
        refine lv_iconst (v := 1) hx hb dX0_plugIn_14 (by decide) ?_
        refine lv_bipush (v := 32) hx hb dX0_plugIn_15 (by decide) ?_
        by_cases c17 : (X0_requireWithin_T at_ 1 32) = 0
        · refine k_callsv (rest := []) (As := [.int at_, .int 1, .int 32]) hC (c_X0_requireWithin l dC dI cI cZ (xW cI cZ h a qph qgr qne qap qle qfu qpc qgd qri qnw qtk qsv qwa qgi qlo qtu) at_ 1 32 c17) (va_cwS 3 hts gX0_plugIn_X0_requireWithin rfl rfl rfl hd_X0_requireWithin ⟨Nat.le_of_ble_eq_true rfl, Nat.le_of_ble_eq_true rfl⟩) hK hP hD hS hA rfl hl.1 (Nat.le_of_ble_eq_true rfl) dX0_plugIn_17 rfl ⟨Nat.zero_le _, Nat.zero_le _⟩ (fun H locs hP hD hS => ?_)
          refine lv_iload hx hb dX0_plugIn_20 (lv_at hl 4 rfl) ?_
          refine lv_iconst (v := 1) hx hb dX0_plugIn_22 (by decide) ?_
          refine lv_sipush (v := 500) hx hb dX0_plugIn_23 (by decide) ?_
          by_cases c26 : (X0_requireWithin_T sp 1 500) = 0
          · refine k_callsv (rest := []) (As := [.int sp, .int 1, .int 500]) hC (c_X0_requireWithin l dC dI cI cZ (xW cI cZ h a qph qgr qne qap qle qfu qpc qgd qri qnw qtk qsv qwa qgi qlo qtu) sp 1 500 c26) (va_cwS 3 hts gX0_plugIn_X0_requireWithin rfl rfl rfl hd_X0_requireWithin ⟨Nat.le_of_ble_eq_true rfl, Nat.le_of_ble_eq_true rfl⟩) hK hP hD hS hA rfl hl.1 (Nat.le_of_ble_eq_true rfl) dX0_plugIn_26 rfl ⟨Nat.zero_le _, Nat.zero_le _⟩ (fun H locs hP hD hS => ?_)
            refine lv_aload_n hx hb dX0_plugIn_29 rfl (lv_at hl 0 rfl) ?_
            refine lv_iload_n hx hb dX0_plugIn_30 rfl (lv_at hl 1 rfl) ?_
            refine k_calli (rest := []) (q0 := 0) hC (c_X0_hasCar l dC dI cI cZ h a qph qgr qne qap qle qfu qpc qgd qri qnw qtk qsv qwa qgi qlo qtu  i (rq_in hpc hn c2)) (cwV 1 hts gX0_plugIn_X0_hasCar rfl rfl rfl hd_X0_hasCar ⟨Nat.le_of_ble_eq_true rfl, Nat.le_of_ble_eq_true rfl⟩) hK hP hD hS hA rfl rfl rfl hl.1 (Nat.le_of_ble_eq_true rfl) dX0_plugIn_31 rfl ⟨Nat.zero_le _, Nat.zero_le _⟩ (fun H locs hP hD hS => ?_)
            refine lv_if_eq (tgt := 47) hx hb dX0_plugIn_34 (by decide) (fun c34 => ?_) (fun c34 => ?_)
            · refine lv_aload_n hx hb dX0_plugIn_47 rfl (lv_at hl 0 rfl) ?_
              refine va_get (D := (dC, dI)) (ci := 0) (v := .ref (a 2)) (C := RX0) (T := TX0) (N := 16) hx hb hts hin hown hK hP 0 rfl rfl 2 (by decide) hw0 (fun _ h9 => h9) rfl dX0_plugIn_48 ?_
              refine lv_iload_n hx hb dX0_plugIn_51 rfl (lv_at hl 1 rfl) ?_
              refine lv_iload_n hx hb dX0_plugIn_52 rfl (lv_at hl 2 rfl) ?_
              refine va_iast (f := qne) hx hb hK hP hD hS 3 0 rfl rfl (rq_in hpc hn c2) dX0_plugIn_53 (fun H locs hP hD hS => ?_)
              obtain ⟨z1, hz1⟩ : ∃ z : AR, z = (upd qne i.toNatClampNeg nd) := ⟨_, rfl⟩
              rw [← hz1] at hP hD
              have hP : va_P (dC, dI) vwCl (xW cI cZ h a qph qgr z1 qap qle qfu qpc qgd qri qnw qtk qsv qwa qgi qlo qtu) H := hP
              have hD : va_D A (xW cI cZ h a qph qgr z1 qap qle qfu qpc qgd qri qnw qtk qsv qwa qgi qlo qtu) := hD
              refine lv_aload_n hx hb dX0_plugIn_54 rfl (lv_at hl 0 rfl) ?_
              refine va_get (D := (dC, dI)) (ci := 0) (v := .ref (a 3)) (C := RX0) (T := TX0) (N := 16) hx hb hts hin hown hK hP 0 rfl rfl 3 (by decide) hw1 (fun _ h9 => h9) rfl dX0_plugIn_55 ?_
              refine lv_iload_n hx hb dX0_plugIn_58 rfl (lv_at hl 1 rfl) ?_
              refine lv_iload_n hx hb dX0_plugIn_59 rfl (lv_at hl 3 rfl) ?_
              refine va_iast (f := qap) hx hb hK hP hD hS 4 0 rfl rfl (rq_in hpc hn c2) dX0_plugIn_60 (fun H locs hP hD hS => ?_)
              obtain ⟨z2, hz2⟩ : ∃ z : AR, z = (upd qap i.toNatClampNeg at_) := ⟨_, rfl⟩
              rw [← hz2] at hP hD
              have hP : va_P (dC, dI) vwCl (xW cI cZ h a qph qgr z1 z2 qle qfu qpc qgd qri qnw qtk qsv qwa qgi qlo qtu) H := hP
              have hD : va_D A (xW cI cZ h a qph qgr z1 z2 qle qfu qpc qgd qri qnw qtk qsv qwa qgi qlo qtu) := hD
              refine lv_aload_n hx hb dX0_plugIn_61 rfl (lv_at hl 0 rfl) ?_
              refine va_get (D := (dC, dI)) (ci := 0) (v := .ref (a 4)) (C := RX0) (T := TX0) (N := 16) hx hb hts hin hown hK hP 0 rfl rfl 4 (by decide) hw2 (fun _ h9 => h9) rfl dX0_plugIn_62 ?_
              refine lv_iload_n hx hb dX0_plugIn_65 rfl (lv_at hl 1 rfl) ?_
              refine lv_aload_n hx hb dX0_plugIn_66 rfl (lv_at hl 0 rfl) ?_
              refine va_get (D := (dC, dI)) (ci := 0) (v := .int qnw) (C := RX0) (T := TX0) (N := 16) hx hb hts hin hown hK hP 0 rfl rfl 9 (by decide) hw3 (fun _ h9 => h9) rfl dX0_plugIn_67 ?_
              refine lv_iload hx hb dX0_plugIn_70 (lv_at hl 4 rfl) ?_
              refine lv_iadd hx hb dX0_plugIn_72 ?_
              refine va_iast (f := qle) hx hb hK hP hD hS 5 0 rfl rfl (rq_in hpc hn c2) dX0_plugIn_73 (fun H locs hP hD hS => ?_)
              obtain ⟨z3, hz3⟩ : ∃ z : AR, z = (upd qle i.toNatClampNeg (qnw + sp)) := ⟨_, rfl⟩
              rw [← hz3] at hP hD
              have hP : va_P (dC, dI) vwCl (xW cI cZ h a qph qgr z1 z2 z3 qfu qpc qgd qri qnw qtk qsv qwa qgi qlo qtu) H := hP
              have hD : va_D A (xW cI cZ h a qph qgr z1 z2 z3 qfu qpc qgd qri qnw qtk qsv qwa qgi qlo qtu) := hD
              refine lv_aload_n hx hb dX0_plugIn_74 rfl (lv_at hl 0 rfl) ?_
              refine lv_iload_n hx hb dX0_plugIn_75 rfl (lv_at hl 1 rfl) ?_
              refine k_calli (rest := []) (q0 := 0) hC (c_X0_laxityAt l dC dI cI cZ h a qph qgr z1 z2 z3 qfu qpc qgd qri qnw qtk qsv qwa qgi qlo qtu  i (rq_in hpc hn c2)) (cwV 1 hts gX0_plugIn_X0_laxityAt rfl rfl rfl hd_X0_laxityAt ⟨Nat.le_of_ble_eq_true rfl, Nat.le_of_ble_eq_true rfl⟩) hK hP hD hS hA rfl rfl rfl hl.1 (Nat.le_of_ble_eq_true rfl) dX0_plugIn_76 rfl ⟨Nat.zero_le _, Nat.zero_le _⟩ (fun H locs hP hD hS => ?_)
              have hP9 := hP; have hD9 := hD
              subst hz1 hz2 hz3
              have hP8 : va_P (dC, dI) vwCl (xW cI cZ h a qph qgr ((X0_plugIn qph qgr qne qap qle qpc qnw n i nd at_ sp).2.1) ((X0_plugIn qph qgr qne qap qle qpc qnw n i nd at_ sp).2.2.1) ((X0_plugIn qph qgr qne qap qle qpc qnw n i nd at_ sp).2.2.2) qfu qpc qgd qri qnw qtk qsv qwa qgi qlo qtu) H := by rw [X0_plugIn, if_pos c2, if_pos c10, if_pos c17, if_pos c26, if_pos c34]; exact hP9
              have hD8 : va_D A (xW cI cZ h a qph qgr ((X0_plugIn qph qgr qne qap qle qpc qnw n i nd at_ sp).2.1) ((X0_plugIn qph qgr qne qap qle qpc qnw n i nd at_ sp).2.2.1) ((X0_plugIn qph qgr qne qap qle qpc qnw n i nd at_ sp).2.2.2) qfu qpc qgd qri qnw qtk qsv qwa qgi qlo qtu) := by rw [X0_plugIn, if_pos c2, if_pos c10, if_pos c17, if_pos c26, if_pos c34]; exact hD9
              exact hret H locs 79 ls (X0_laxityAt qph qgr (upd qne i.toNatClampNeg nd) (upd qap i.toNatClampNeg at_) (upd qle i.toNatClampNeg (qnw + sp)) qnw i) hS hP8 hD8 (by rw [X0_plugIn, if_pos c2, if_pos c10, if_pos c17, if_pos c26, if_pos c34]) dX0_plugIn_79
            · rw [X0_plugIn_T, if_pos c2, if_pos c10, if_pos c17, if_pos c26, if_neg c34] at hok
              exact absurd hok (by decide)
          · rw [X0_plugIn_T, if_pos c2, if_pos c10, if_pos c17, if_neg c26] at hok
            exact absurd hok (by decide)
        · rw [X0_plugIn_T, if_pos c2, if_pos c10, if_neg c17] at hok
          exact absurd hok (by decide)
      · rw [X0_plugIn_T, if_pos c2, if_neg c10] at hok
        exact absurd hok (by decide)
    · rw [X0_plugIn_T, if_neg c2] at hok
      exact absurd hok (by decide)
  exact hW _ _ hP hD hS
abbrev rmxX0_plugIn : Room := { frames := 7, cells := 1, slots := 6, locals := 104 }
set_option maxHeartbeats 4000000 in
set_option maxRecDepth 100000 in
theorem cx_X0_plugIn (l : Launch) (hl0 : l.stackTraces = false) (dC : Nat → ClassId) (dI : Nat → Nat → Nat) (cI cZ : ClassId) (h : Nat) (a : Nat → Nat) (qph : AR) (qgr : AR) (qne : AR) (qap : AR) (qle : AR) (qfu : AR) (qpc : Int32) (qgd : Int32) (qri : Int32) (qnw : Int32) (qtk : Int32) (qsv : Int32) (qwa : AR) (qgi : AR) (qlo : AR) (qtu : AR) (n : Nat) (i : Int32) (nd : Int32) (at_ : Int32) (sp : Int32) (hpc : qpc = nI n) (hn : n ≤ 8) (hbad : ¬ X0_plugIn_T qne qpc n i nd at_ sp = 0) : Kx l yX0_plugIn wsX0_plugIn rmxX0_plugIn dC dI cI cZ [.ref h, .int i, .int nd, .int at_, .int sp] (xW cI cZ h a qph qgr qne qap qle qfu qpc qgd qri qnw qtk qsv qwa qgi qlo qtu) (fun E => (X0_plugIn_T qne qpc n i nd at_ sp = 1 ∧ E = nIO) ∨ (X0_plugIn_T qne qpc n i nd at_ sp = 2 ∧ E = nIA) ∨ (X0_plugIn_T qne qpc n i nd at_ sp = 3 ∧ E = nIS)) := by
  refine k_enter_x (cc := cX0_plugIn) (maxL := 5) (ret := some .int) (by decide) rfl (Nat.le_of_ble_eq_true rfl) ?_
  intro p e s m below meth c A ls hC hlocks htab hK hNs hZ hP hD hS hA hl
  generalize List.toArray _ = args at hC ⊢
  obtain ⟨hx, hb, hml, hown, hts⟩ := id hC
  have hatIS : ∀ w ∈ (vx_atS RX0 62 nIS nms).filter goodWord, w ∈ wsX0_plugIn := by decide +kernel
  have hw0 := hts (.classLink RX0 58 nIS) (by decide +kernel)
  have hw1 := hts (.initialized nIS) (by decide +kernel)
  have hl : lv_has ls 5 [(0, .ref h), (1, .int i), (2, .int nd), (3, .int at_), (4, .int sp)] := hl
  have hP : va_P (dC, dI) vwCl (xW cI cZ h a qph qgr qne qap qle qfu qpc qgd qri qnw qtk qsv qwa qgi qlo qtu) s.heap := hP
  refine lv_aload_n hx hb dX0_plugIn_0 rfl (lv_at hl 0 rfl) ?_
  refine lv_iload_n hx hb dX0_plugIn_1 rfl (lv_at hl 1 rfl) ?_
  by_cases c2 : (X0_requirePoint_T qpc i) = 0
  · refine k_callv (rest := []) (q0 := 0) hC (c_X0_requirePoint l dC dI cI cZ h a qph qgr qne qap qle qfu qpc qgd qri qnw qtk qsv qwa qgi qlo qtu  i c2) (cwV 1 hts gX0_plugIn_X0_requirePoint rfl rfl rfl hd_X0_requirePoint ⟨Nat.le_of_ble_eq_true rfl, Nat.le_of_ble_eq_true rfl⟩) hK hP hD hS hA rfl rfl rfl hl.1 (Nat.le_of_ble_eq_true rfl) dX0_plugIn_2 rfl ⟨Nat.zero_le _, Nat.zero_le _⟩ (fun H locs hP hD hS => ?_)
    refine lv_iload_n hx hb dX0_plugIn_5 rfl (lv_at hl 2 rfl) ?_
    refine lv_iconst (v := 1) hx hb dX0_plugIn_6 (by decide) ?_
    refine lv_sipush (v := 5000) hx hb dX0_plugIn_7 (by decide) ?_
    by_cases c10 : (X0_requireWithin_T nd 1 5000) = 0
    · refine k_callsv (rest := []) (As := [.int nd, .int 1, .int 5000]) hC (c_X0_requireWithin l dC dI cI cZ (xW cI cZ h a qph qgr qne qap qle qfu qpc qgd qri qnw qtk qsv qwa qgi qlo qtu) nd 1 5000 c10) (va_cwS 3 hts gX0_plugIn_X0_requireWithin rfl rfl rfl hd_X0_requireWithin ⟨Nat.le_of_ble_eq_true rfl, Nat.le_of_ble_eq_true rfl⟩) hK hP hD hS hA rfl hl.1 (Nat.le_of_ble_eq_true rfl) dX0_plugIn_10 rfl ⟨Nat.zero_le _, Nat.zero_le _⟩ (fun H locs hP hD hS => ?_)
      refine lv_iload_n hx hb dX0_plugIn_13 rfl (lv_at hl 3 rfl) ?_
      refine lv_iconst (v := 1) hx hb dX0_plugIn_14 (by decide) ?_
      refine lv_bipush (v := 32) hx hb dX0_plugIn_15 (by decide) ?_
      by_cases c17 : (X0_requireWithin_T at_ 1 32) = 0
      · refine k_callsv (rest := []) (As := [.int at_, .int 1, .int 32]) hC (c_X0_requireWithin l dC dI cI cZ (xW cI cZ h a qph qgr qne qap qle qfu qpc qgd qri qnw qtk qsv qwa qgi qlo qtu) at_ 1 32 c17) (va_cwS 3 hts gX0_plugIn_X0_requireWithin rfl rfl rfl hd_X0_requireWithin ⟨Nat.le_of_ble_eq_true rfl, Nat.le_of_ble_eq_true rfl⟩) hK hP hD hS hA rfl hl.1 (Nat.le_of_ble_eq_true rfl) dX0_plugIn_17 rfl ⟨Nat.zero_le _, Nat.zero_le _⟩ (fun H locs hP hD hS => ?_)
        refine lv_iload hx hb dX0_plugIn_20 (lv_at hl 4 rfl) ?_
        refine lv_iconst (v := 1) hx hb dX0_plugIn_22 (by decide) ?_
        refine lv_sipush (v := 500) hx hb dX0_plugIn_23 (by decide) ?_
        by_cases c26 : (X0_requireWithin_T sp 1 500) = 0
        · refine k_callsv (rest := []) (As := [.int sp, .int 1, .int 500]) hC (c_X0_requireWithin l dC dI cI cZ (xW cI cZ h a qph qgr qne qap qle qfu qpc qgd qri qnw qtk qsv qwa qgi qlo qtu) sp 1 500 c26) (va_cwS 3 hts gX0_plugIn_X0_requireWithin rfl rfl rfl hd_X0_requireWithin ⟨Nat.le_of_ble_eq_true rfl, Nat.le_of_ble_eq_true rfl⟩) hK hP hD hS hA rfl hl.1 (Nat.le_of_ble_eq_true rfl) dX0_plugIn_26 rfl ⟨Nat.zero_le _, Nat.zero_le _⟩ (fun H locs hP hD hS => ?_)
          refine lv_aload_n hx hb dX0_plugIn_29 rfl (lv_at hl 0 rfl) ?_
          refine lv_iload_n hx hb dX0_plugIn_30 rfl (lv_at hl 1 rfl) ?_
          refine k_calli (rest := []) (q0 := 0) hC (c_X0_hasCar l dC dI cI cZ h a qph qgr qne qap qle qfu qpc qgd qri qnw qtk qsv qwa qgi qlo qtu  i (rq_in hpc hn c2)) (cwV 1 hts gX0_plugIn_X0_hasCar rfl rfl rfl hd_X0_hasCar ⟨Nat.le_of_ble_eq_true rfl, Nat.le_of_ble_eq_true rfl⟩) hK hP hD hS hA rfl rfl rfl hl.1 (Nat.le_of_ble_eq_true rfl) dX0_plugIn_31 rfl ⟨Nat.zero_le _, Nat.zero_le _⟩ (fun H locs hP hD hS => ?_)
          refine lv_if_eq (tgt := 47) hx hb dX0_plugIn_34 (by decide) (fun c34 => ?_) (fun c34 => ?_)
          · exact absurd (by rw [X0_plugIn_T, if_pos c2, if_pos c10, if_pos c17, if_pos c26, if_pos c34]) hbad
          · exact kx_throw (cls := nIS) hC hl0 (by decide) hw0 hw1 hNs.2.2.2.2.2.2.2.2 (kat_IS hNs (fun w hw => hts w (hatIS w hw))) kg_IS hZ hS hl.1 dX0_plugIn_37 dX0_plugIn_40 dX0_plugIn_41 dX0_plugIn_43 dX0_plugIn_46 htab hlocks (Nat.le_of_ble_eq_true rfl) (Nat.le_of_ble_eq_true rfl) (Nat.le_of_ble_eq_true rfl) (Nat.le_of_ble_eq_true rfl) hP hD (Or.inr (Or.inr (⟨by rw [X0_plugIn_T, if_pos c2, if_pos c10, if_pos c17, if_pos c26, if_neg c34], rfl⟩)))
        · refine kx_callS (rest := []) (As := [.int sp, .int 1, .int 500]) hC (cx_X0_requireWithin l hl0 dC dI cI cZ (xW cI cZ h a qph qgr qne qap qle qfu qpc qgd qri qnw qtk qsv qwa qgi qlo qtu) sp 1 500 c26) (va_cwS 3 hts gX0_plugIn_X0_requireWithin rfl rfl rfl hd_X0_requireWithin ⟨Nat.le_of_ble_eq_true rfl, Nat.le_of_ble_eq_true rfl⟩) hK hNs hZ hP hD hS hA rfl hl.1 (Nat.le_of_ble_eq_true rfl) dX0_plugIn_26 rfl ⟨Nat.le_of_ble_eq_true rfl, Nat.le_of_ble_eq_true rfl⟩ (fun E ce q H locs hex hP hD hS hcell hv hcl => ?_)
          exact kx_out htab hlocks hcell hv hcl hS hP hD (Or.inr (Or.inl ⟨by rw [X0_plugIn_T, if_pos c2, if_pos c10, if_pos c17, if_neg c26], hex.2⟩)) (Nat.le_of_ble_eq_true rfl) (Nat.le_of_ble_eq_true rfl)
      · refine kx_callS (rest := []) (As := [.int at_, .int 1, .int 32]) hC (cx_X0_requireWithin l hl0 dC dI cI cZ (xW cI cZ h a qph qgr qne qap qle qfu qpc qgd qri qnw qtk qsv qwa qgi qlo qtu) at_ 1 32 c17) (va_cwS 3 hts gX0_plugIn_X0_requireWithin rfl rfl rfl hd_X0_requireWithin ⟨Nat.le_of_ble_eq_true rfl, Nat.le_of_ble_eq_true rfl⟩) hK hNs hZ hP hD hS hA rfl hl.1 (Nat.le_of_ble_eq_true rfl) dX0_plugIn_17 rfl ⟨Nat.le_of_ble_eq_true rfl, Nat.le_of_ble_eq_true rfl⟩ (fun E ce q H locs hex hP hD hS hcell hv hcl => ?_)
        exact kx_out htab hlocks hcell hv hcl hS hP hD (Or.inr (Or.inl ⟨by rw [X0_plugIn_T, if_pos c2, if_pos c10, if_neg c17], hex.2⟩)) (Nat.le_of_ble_eq_true rfl) (Nat.le_of_ble_eq_true rfl)
    · refine kx_callS (rest := []) (As := [.int nd, .int 1, .int 5000]) hC (cx_X0_requireWithin l hl0 dC dI cI cZ (xW cI cZ h a qph qgr qne qap qle qfu qpc qgd qri qnw qtk qsv qwa qgi qlo qtu) nd 1 5000 c10) (va_cwS 3 hts gX0_plugIn_X0_requireWithin rfl rfl rfl hd_X0_requireWithin ⟨Nat.le_of_ble_eq_true rfl, Nat.le_of_ble_eq_true rfl⟩) hK hNs hZ hP hD hS hA rfl hl.1 (Nat.le_of_ble_eq_true rfl) dX0_plugIn_10 rfl ⟨Nat.le_of_ble_eq_true rfl, Nat.le_of_ble_eq_true rfl⟩ (fun E ce q H locs hex hP hD hS hcell hv hcl => ?_)
      exact kx_out htab hlocks hcell hv hcl hS hP hD (Or.inr (Or.inl ⟨by rw [X0_plugIn_T, if_pos c2, if_neg c10], hex.2⟩)) (Nat.le_of_ble_eq_true rfl) (Nat.le_of_ble_eq_true rfl)
  · refine kx_callV (rest := []) (q0 := 0) hC (cx_X0_requirePoint l hl0 dC dI cI cZ h a qph qgr qne qap qle qfu qpc qgd qri qnw qtk qsv qwa qgi qlo qtu  i c2) (cwV 1 hts gX0_plugIn_X0_requirePoint rfl rfl rfl hd_X0_requirePoint ⟨Nat.le_of_ble_eq_true rfl, Nat.le_of_ble_eq_true rfl⟩) hK hNs hZ hP hD hS hA rfl rfl rfl hl.1 (Nat.le_of_ble_eq_true rfl) dX0_plugIn_2 rfl ⟨Nat.le_of_ble_eq_true rfl, Nat.le_of_ble_eq_true rfl⟩ (fun E ce q H locs hex hP hD hS hcell hv hcl => ?_)
    exact kx_out htab hlocks hcell hv hcl hS hP hD (Or.inl ⟨by rw [X0_plugIn_T, if_neg c2], hex.2⟩) (Nat.le_of_ble_eq_true rfl) (Nat.le_of_ble_eq_true rfl)
def X0_takeOut_T (qne : AR) (qpc : Int32) (n : Nat) (i : Int32) : Int32 := (if (X0_requirePoint_T qpc i) = 0 then (if (X0_requireCar_T qne i) = 0 then 0 else 2) else 1)
def X0_takeOut (qne : AR) (qpc : Int32) (qsv : Int32) (n : Nat) (i : Int32) : Int32 × AR × Int32 := (if (X0_requirePoint_T qpc i) = 0 then (if (X0_requireCar_T qne i) = 0 then (if (qne i.toNatClampNeg) = 0 then ((qne i.toNatClampNeg), (upd qne i.toNatClampNeg (-1)), (qsv + 1)) else ((qne i.toNatClampNeg), (upd qne i.toNatClampNeg (-1)), qsv)) else (0, qne, qsv)) else (0, qne, qsv))
abbrev rmX0_takeOut : Room := { frames := 2, cells := 0, slots := 0, locals := 42 }
theorem hd_X0_takeOut : yX0_takeOut.cls = RX0 ∧ yX0_takeOut.cls ≠ "java/lang/invoke/MethodHandle" ∧ yX0_takeOut.cls ≠ "java/lang/invoke/VarHandle" ∧ (parseMethodDescriptor yX0_takeOut.desc).map (fun d => d.parameters.length) = some 1 := by decide +kernel
set_option maxHeartbeats 4000000 in
set_option maxRecDepth 100000 in
theorem c_X0_takeOut (l : Launch) (dC : Nat → ClassId) (dI : Nat → Nat → Nat) (cI cZ : ClassId) (h : Nat) (a : Nat → Nat) (qph : AR) (qgr : AR) (qne : AR) (qap : AR) (qle : AR) (qfu : AR) (qpc : Int32) (qgd : Int32) (qri : Int32) (qnw : Int32) (qtk : Int32) (qsv : Int32) (qwa : AR) (qgi : AR) (qlo : AR) (qtu : AR) (n : Nat) (i : Int32) (hpc : qpc = nI n) (hn : n ≤ 8) (hok : X0_takeOut_T qne qpc n i = 0) : Ki l yX0_takeOut wsX0_takeOut rmX0_takeOut dC dI cI cZ [.ref h, .int i] (xW cI cZ h a qph qgr qne qap qle qfu qpc qgd qri qnw qtk qsv qwa qgi qlo qtu) (xW cI cZ h a qph qgr ((X0_takeOut qne qpc qsv n i).2.1) qap qle qfu qpc qgd qri qnw qtk ((X0_takeOut qne qpc qsv n i).2.2) qwa qgi qlo qtu) (X0_takeOut qne qpc qsv n i).1 := by
  refine k_enter_i (cc := cX0_takeOut) (maxL := 3) (ret := some .int) (by decide) rfl (Nat.le_of_ble_eq_true rfl) ?_
  intro p e s m below meth c A ls hC hr hlocks hK hP hD hS hA hl
  generalize List.toArray _ = args at hC ⊢
  obtain ⟨hx, hb, hml, hown, hts⟩ := id hC
  have hret : ∀ (H : Heap) (locs : List Loc) (pc : Nat) (ls : Array Slot) (r : Int32), va_S A s.heap H locs → va_P (dC, dI) vwCl (xW cI cZ h a qph qgr ((X0_takeOut qne qpc qsv n i).2.1) qap qle qfu qpc qgd qri qnw qtk ((X0_takeOut qne qpc qsv n i).2.2) qwa qgi qlo qtu) H → va_D A (xW cI cZ h a qph qgr ((X0_takeOut qne qpc qsv n i).2.1) qap qle qfu qpc qgd qri qnw qtk ((X0_takeOut qne qpc qsv n i).2.2) qwa qgi qlo qtu) → r = (X0_takeOut qne qpc qsv n i).1 → decode cX0_takeOut pc = .ok (.ireturn, 1) → W p l e rmX0_takeOut s m args below meth c H locs 0 0 (MQ below (va_Qi (fun r (_ : Unit) => r = (X0_takeOut qne qpc qsv n i).1) (kBeh dC dI A (xW cI cZ h a qph qgr ((X0_takeOut qne qpc qsv n i).2.1) qap qle qfu qpc qgd qri qnw qtk ((X0_takeOut qne qpc qsv n i).2.2) qwa qgi qlo qtu)) A) args s 0 0 A) (F0 m pc ls [.int r]) := fun H locs pc ls r hS hP hD hv d => k_iret hx hb hr hlocks hS hP hD hv d
  generalize MQ below _ _ _ _ _ _ = Q at hret ⊢
  have hin : ∀ w ∈ wsX00, w ∈ wsX0_takeOut := by decide +kernel
  have hw0 := hts (.fieldLink RX0 16 "ChargePark" "needOf" "[I") (by decide +kernel)
  have hw1 := hts (.fieldLink RX0 84 "ChargePark" "servedCars" "I") (by decide +kernel)
  have hl : lv_has ls 3 [(0, .ref h), (1, .int i)] := hl
  have hP : va_P (dC, dI) vwCl (xW cI cZ h a qph qgr qne qap qle qfu qpc qgd qri qnw qtk qsv qwa qgi qlo qtu) s.heap := hP
  have hW : ∀ (H : Heap) (locs : List Loc), va_P (dC, dI) vwCl (xW cI cZ h a qph qgr qne qap qle qfu qpc qgd qri qnw qtk qsv qwa qgi qlo qtu) H → va_D A (xW cI cZ h a qph qgr qne qap qle qfu qpc qgd qri qnw qtk qsv qwa qgi qlo qtu) → va_S A s.heap H locs → W p l e rmX0_takeOut s m args below meth c H locs 0 0 Q (F0 m 0 ls []) := by
    intro H locs hP hD hS
    refine lv_aload_n hx hb dX0_takeOut_0 rfl (lv_at hl 0 rfl) ?_
    refine lv_iload_n hx hb dX0_takeOut_1 rfl (lv_at hl 1 rfl) ?_
    by_cases c2 : (X0_requirePoint_T qpc i) = 0
    · refine k_callv (rest := []) (q0 := 0) hC (c_X0_requirePoint l dC dI cI cZ h a qph qgr qne qap qle qfu qpc qgd qri qnw qtk qsv qwa qgi qlo qtu  i c2) (cwV 1 hts gX0_takeOut_X0_requirePoint rfl rfl rfl hd_X0_requirePoint ⟨Nat.le_of_ble_eq_true rfl, Nat.le_of_ble_eq_true rfl⟩) hK hP hD hS hA rfl rfl rfl hl.1 (Nat.le_of_ble_eq_true rfl) dX0_takeOut_2 rfl ⟨Nat.zero_le _, Nat.zero_le _⟩ (fun H locs hP hD hS => ?_)
      refine lv_aload_n hx hb dX0_takeOut_5 rfl (lv_at hl 0 rfl) ?_
      refine lv_iload_n hx hb dX0_takeOut_6 rfl (lv_at hl 1 rfl) ?_
      by_cases c7 : (X0_requireCar_T qne i) = 0
      · refine k_callv (rest := []) (q0 := 0) hC (c_X0_requireCar l dC dI cI cZ h a qph qgr qne qap qle qfu qpc qgd qri qnw qtk qsv qwa qgi qlo qtu  i (rq_in hpc hn c2) c7) (cwV 1 hts gX0_takeOut_X0_requireCar rfl rfl rfl hd_X0_requireCar ⟨Nat.le_of_ble_eq_true rfl, Nat.le_of_ble_eq_true rfl⟩) hK hP hD hS hA rfl rfl rfl hl.1 (Nat.le_of_ble_eq_true rfl) dX0_takeOut_7 rfl ⟨Nat.zero_le _, Nat.zero_le _⟩ (fun H locs hP hD hS => ?_)
        refine lv_aload_n hx hb dX0_takeOut_10 rfl (lv_at hl 0 rfl) ?_
        refine va_get (D := (dC, dI)) (ci := 0) (v := .ref (a 2)) (C := RX0) (T := TX0) (N := 16) hx hb hts hin hown hK hP 0 rfl rfl 2 (by decide) hw0 (fun _ h9 => h9) rfl dX0_takeOut_11 ?_
        refine lv_iload_n hx hb dX0_takeOut_14 rfl (lv_at hl 1 rfl) ?_
        refine va_iald (f := qne) hx hb hK hP 3 0 rfl rfl (rq_in hpc hn c2) dX0_takeOut_15 ?_
        refine lv_istore_n (lv' := [(2, .int (qne i.toNatClampNeg)), (0, .ref h), (1, .int i)]) hx hb dX0_takeOut_16 rfl hl (by decide) rfl (fun ls hl => ?_)
        refine lv_iload_n hx hb dX0_takeOut_17 rfl (lv_at hl 0 rfl) ?_
        refine lv_if_ne (tgt := 31) hx hb dX0_takeOut_18 (by decide) (fun c18 => ?_) (fun c18 => ?_)
        · refine lv_aload_n hx hb dX0_takeOut_31 rfl (lv_at hl 1 rfl) ?_
          refine va_get (D := (dC, dI)) (ci := 0) (v := .ref (a 2)) (C := RX0) (T := TX0) (N := 16) hx hb hts hin hown hK hP 0 rfl rfl 2 (by decide) hw0 (fun _ h9 => h9) rfl dX0_takeOut_32 ?_
          refine lv_iload_n hx hb dX0_takeOut_35 rfl (lv_at hl 2 rfl) ?_
          refine lv_iconst (v := (-1)) hx hb dX0_takeOut_36 (by decide) ?_
          refine va_iast (f := qne) hx hb hK hP hD hS 3 0 rfl rfl (rq_in hpc hn c2) dX0_takeOut_37 (fun H locs hP hD hS => ?_)
          obtain ⟨z1, hz1⟩ : ∃ z : AR, z = (upd qne i.toNatClampNeg (-1)) := ⟨_, rfl⟩
          rw [← hz1] at hP hD
          have hP : va_P (dC, dI) vwCl (xW cI cZ h a qph qgr z1 qap qle qfu qpc qgd qri qnw qtk qsv qwa qgi qlo qtu) H := hP
          have hD : va_D A (xW cI cZ h a qph qgr z1 qap qle qfu qpc qgd qri qnw qtk qsv qwa qgi qlo qtu) := hD
          refine lv_iload_n hx hb dX0_takeOut_38 rfl (lv_at hl 0 rfl) ?_
          have hP9 := hP; have hD9 := hD
          subst hz1
          have hP8 : va_P (dC, dI) vwCl (xW cI cZ h a qph qgr ((X0_takeOut qne qpc qsv n i).2.1) qap qle qfu qpc qgd qri qnw qtk ((X0_takeOut qne qpc qsv n i).2.2) qwa qgi qlo qtu) H := by rw [X0_takeOut, if_pos c2, if_pos c7, if_neg c18]; exact hP9
          have hD8 : va_D A (xW cI cZ h a qph qgr ((X0_takeOut qne qpc qsv n i).2.1) qap qle qfu qpc qgd qri qnw qtk ((X0_takeOut qne qpc qsv n i).2.2) qwa qgi qlo qtu) := by rw [X0_takeOut, if_pos c2, if_pos c7, if_neg c18]; exact hD9
          exact hret H locs 39 ls (qne i.toNatClampNeg) hS hP8 hD8 (by rw [X0_takeOut, if_pos c2, if_pos c7, if_neg c18]) dX0_takeOut_39
        · refine lv_aload_n hx hb dX0_takeOut_21 rfl (lv_at hl 1 rfl) ?_
          refine lv_dup hx hb dX0_takeOut_22 rfl ?_
          refine va_get (D := (dC, dI)) (ci := 0) (v := .int qsv) (C := RX0) (T := TX0) (N := 16) hx hb hts hin hown hK hP 0 rfl rfl 11 (by decide) hw1 (fun _ h9 => h9) rfl dX0_takeOut_23 ?_
          refine lv_iconst (v := 1) hx hb dX0_takeOut_26 (by decide) ?_
          refine lv_iadd hx hb dX0_takeOut_27 ?_
          refine va_put (D := (dC, dI)) (ci := 0) (v := .int (qsv + 1)) (ty := .int) (C := RX0) (T := TX0) (N := 16) hx hb hts hin tyX0 tyX0_ok nmX0 hown hK hP hD hS 0 rfl rfl 11 (by decide) hw1 (fun _ h9 => h9) rfl xfd11 rfl rfl (Nat.le_of_ble_eq_true rfl) dX0_takeOut_28 (fun H locs hP hD hS => ?_)
          obtain ⟨z2, hz2⟩ : ∃ z : Int32, z = (qsv + 1) := ⟨_, rfl⟩
          rw [← hz2] at hP hD
          have hP : va_P (dC, dI) vwCl (xW cI cZ h a qph qgr qne qap qle qfu qpc qgd qri qnw qtk z2 qwa qgi qlo qtu) H := hP
          have hD : va_D A (xW cI cZ h a qph qgr qne qap qle qfu qpc qgd qri qnw qtk z2 qwa qgi qlo qtu) := hD
          refine lv_aload_n hx hb dX0_takeOut_31 rfl (lv_at hl 1 rfl) ?_
          refine va_get (D := (dC, dI)) (ci := 0) (v := .ref (a 2)) (C := RX0) (T := TX0) (N := 16) hx hb hts hin hown hK hP 0 rfl rfl 2 (by decide) hw0 (fun _ h9 => h9) rfl dX0_takeOut_32 ?_
          refine lv_iload_n hx hb dX0_takeOut_35 rfl (lv_at hl 2 rfl) ?_
          refine lv_iconst (v := (-1)) hx hb dX0_takeOut_36 (by decide) ?_
          refine va_iast (f := qne) hx hb hK hP hD hS 3 0 rfl rfl (rq_in hpc hn c2) dX0_takeOut_37 (fun H locs hP hD hS => ?_)
          obtain ⟨z3, hz3⟩ : ∃ z : AR, z = (upd qne i.toNatClampNeg (-1)) := ⟨_, rfl⟩
          rw [← hz3] at hP hD
          have hP : va_P (dC, dI) vwCl (xW cI cZ h a qph qgr z3 qap qle qfu qpc qgd qri qnw qtk z2 qwa qgi qlo qtu) H := hP
          have hD : va_D A (xW cI cZ h a qph qgr z3 qap qle qfu qpc qgd qri qnw qtk z2 qwa qgi qlo qtu) := hD
          refine lv_iload_n hx hb dX0_takeOut_38 rfl (lv_at hl 0 rfl) ?_
          have hP9 := hP; have hD9 := hD
          subst hz2 hz3
          have hP8 : va_P (dC, dI) vwCl (xW cI cZ h a qph qgr ((X0_takeOut qne qpc qsv n i).2.1) qap qle qfu qpc qgd qri qnw qtk ((X0_takeOut qne qpc qsv n i).2.2) qwa qgi qlo qtu) H := by rw [X0_takeOut, if_pos c2, if_pos c7, if_pos c18]; exact hP9
          have hD8 : va_D A (xW cI cZ h a qph qgr ((X0_takeOut qne qpc qsv n i).2.1) qap qle qfu qpc qgd qri qnw qtk ((X0_takeOut qne qpc qsv n i).2.2) qwa qgi qlo qtu) := by rw [X0_takeOut, if_pos c2, if_pos c7, if_pos c18]; exact hD9
          exact hret H locs 39 ls (qne i.toNatClampNeg) hS hP8 hD8 (by rw [X0_takeOut, if_pos c2, if_pos c7, if_pos c18]) dX0_takeOut_39
      · rw [X0_takeOut_T, if_pos c2, if_neg c7] at hok
        exact absurd hok (by decide)
    · rw [X0_takeOut_T, if_neg c2] at hok
      exact absurd hok (by decide)
  exact hW _ _ hP hD hS
abbrev rmxX0_takeOut : Room := { frames := 7, cells := 1, slots := 6, locals := 103 }
set_option maxHeartbeats 4000000 in
set_option maxRecDepth 100000 in
theorem cx_X0_takeOut (l : Launch) (hl0 : l.stackTraces = false) (dC : Nat → ClassId) (dI : Nat → Nat → Nat) (cI cZ : ClassId) (h : Nat) (a : Nat → Nat) (qph : AR) (qgr : AR) (qne : AR) (qap : AR) (qle : AR) (qfu : AR) (qpc : Int32) (qgd : Int32) (qri : Int32) (qnw : Int32) (qtk : Int32) (qsv : Int32) (qwa : AR) (qgi : AR) (qlo : AR) (qtu : AR) (n : Nat) (i : Int32) (hpc : qpc = nI n) (hn : n ≤ 8) (hbad : ¬ X0_takeOut_T qne qpc n i = 0) : Kx l yX0_takeOut wsX0_takeOut rmxX0_takeOut dC dI cI cZ [.ref h, .int i] (xW cI cZ h a qph qgr qne qap qle qfu qpc qgd qri qnw qtk qsv qwa qgi qlo qtu) (fun E => (X0_takeOut_T qne qpc n i = 1 ∧ E = nIO) ∨ (X0_takeOut_T qne qpc n i = 2 ∧ E = nIS)) := by
  refine k_enter_x (cc := cX0_takeOut) (maxL := 3) (ret := some .int) (by decide) rfl (Nat.le_of_ble_eq_true rfl) ?_
  intro p e s m below meth c A ls hC hlocks htab hK hNs hZ hP hD hS hA hl
  generalize List.toArray _ = args at hC ⊢
  obtain ⟨hx, hb, hml, hown, hts⟩ := id hC
  have hl : lv_has ls 3 [(0, .ref h), (1, .int i)] := hl
  have hP : va_P (dC, dI) vwCl (xW cI cZ h a qph qgr qne qap qle qfu qpc qgd qri qnw qtk qsv qwa qgi qlo qtu) s.heap := hP
  refine lv_aload_n hx hb dX0_takeOut_0 rfl (lv_at hl 0 rfl) ?_
  refine lv_iload_n hx hb dX0_takeOut_1 rfl (lv_at hl 1 rfl) ?_
  by_cases c2 : (X0_requirePoint_T qpc i) = 0
  · refine k_callv (rest := []) (q0 := 0) hC (c_X0_requirePoint l dC dI cI cZ h a qph qgr qne qap qle qfu qpc qgd qri qnw qtk qsv qwa qgi qlo qtu  i c2) (cwV 1 hts gX0_takeOut_X0_requirePoint rfl rfl rfl hd_X0_requirePoint ⟨Nat.le_of_ble_eq_true rfl, Nat.le_of_ble_eq_true rfl⟩) hK hP hD hS hA rfl rfl rfl hl.1 (Nat.le_of_ble_eq_true rfl) dX0_takeOut_2 rfl ⟨Nat.zero_le _, Nat.zero_le _⟩ (fun H locs hP hD hS => ?_)
    refine lv_aload_n hx hb dX0_takeOut_5 rfl (lv_at hl 0 rfl) ?_
    refine lv_iload_n hx hb dX0_takeOut_6 rfl (lv_at hl 1 rfl) ?_
    by_cases c7 : (X0_requireCar_T qne i) = 0
    · refine k_callv (rest := []) (q0 := 0) hC (c_X0_requireCar l dC dI cI cZ h a qph qgr qne qap qle qfu qpc qgd qri qnw qtk qsv qwa qgi qlo qtu  i (rq_in hpc hn c2) c7) (cwV 1 hts gX0_takeOut_X0_requireCar rfl rfl rfl hd_X0_requireCar ⟨Nat.le_of_ble_eq_true rfl, Nat.le_of_ble_eq_true rfl⟩) hK hP hD hS hA rfl rfl rfl hl.1 (Nat.le_of_ble_eq_true rfl) dX0_takeOut_7 rfl ⟨Nat.zero_le _, Nat.zero_le _⟩ (fun H locs hP hD hS => ?_)
      exact absurd (by rw [X0_takeOut_T, if_pos c2, if_pos c7]) hbad
    · refine kx_callV (rest := []) (q0 := 0) hC (cx_X0_requireCar l hl0 dC dI cI cZ h a qph qgr qne qap qle qfu qpc qgd qri qnw qtk qsv qwa qgi qlo qtu  i (rq_in hpc hn c2) c7) (cwV 1 hts gX0_takeOut_X0_requireCar rfl rfl rfl hd_X0_requireCar ⟨Nat.le_of_ble_eq_true rfl, Nat.le_of_ble_eq_true rfl⟩) hK hNs hZ hP hD hS hA rfl rfl rfl hl.1 (Nat.le_of_ble_eq_true rfl) dX0_takeOut_7 rfl ⟨Nat.le_of_ble_eq_true rfl, Nat.le_of_ble_eq_true rfl⟩ (fun E ce q H locs hex hP hD hS hcell hv hcl => ?_)
      exact kx_out htab hlocks hcell hv hcl hS hP hD (Or.inr (⟨by rw [X0_takeOut_T, if_pos c2, if_neg c7], hex.2⟩)) (Nat.le_of_ble_eq_true rfl) (Nat.le_of_ble_eq_true rfl)
  · refine kx_callV (rest := []) (q0 := 0) hC (cx_X0_requirePoint l hl0 dC dI cI cZ h a qph qgr qne qap qle qfu qpc qgd qri qnw qtk qsv qwa qgi qlo qtu  i c2) (cwV 1 hts gX0_takeOut_X0_requirePoint rfl rfl rfl hd_X0_requirePoint ⟨Nat.le_of_ble_eq_true rfl, Nat.le_of_ble_eq_true rfl⟩) hK hNs hZ hP hD hS hA rfl rfl rfl hl.1 (Nat.le_of_ble_eq_true rfl) dX0_takeOut_2 rfl ⟨Nat.le_of_ble_eq_true rfl, Nat.le_of_ble_eq_true rfl⟩ (fun E ce q H locs hex hP hD hS hcell hv hcl => ?_)
    exact kx_out htab hlocks hcell hv hcl hS hP hD (Or.inl ⟨by rw [X0_takeOut_T, if_neg c2], hex.2⟩) (Nat.le_of_ble_eq_true rfl) (Nat.le_of_ble_eq_true rfl)
def X0_appetite_T (qne : AR) (qpc : Int32) (n : Nat) (i : Int32) (x : Int32) : Int32 := (if (X0_requirePoint_T qpc i) = 0 then (if (X0_requireWithin_T x 1 32) = 0 then (if (X0_requireCar_T qne i) = 0 then 0 else 3) else 2) else 1)
def X0_appetite (qne : AR) (qap : AR) (qpc : Int32) (n : Nat) (i : Int32) (x : Int32) : Int32 × AR := (if (X0_requirePoint_T qpc i) = 0 then (if (X0_requireWithin_T x 1 32) = 0 then (if (X0_requireCar_T qne i) = 0 then ((qap i.toNatClampNeg), (upd qap i.toNatClampNeg x)) else (0, qap)) else (0, qap)) else (0, qap))
abbrev rmX0_appetite : Room := { frames := 2, cells := 0, slots := 0, locals := 42 }
theorem hd_X0_appetite : yX0_appetite.cls = RX0 ∧ yX0_appetite.cls ≠ "java/lang/invoke/MethodHandle" ∧ yX0_appetite.cls ≠ "java/lang/invoke/VarHandle" ∧ (parseMethodDescriptor yX0_appetite.desc).map (fun d => d.parameters.length) = some 2 := by decide +kernel
set_option maxHeartbeats 4000000 in
set_option maxRecDepth 100000 in
theorem c_X0_appetite (l : Launch) (dC : Nat → ClassId) (dI : Nat → Nat → Nat) (cI cZ : ClassId) (h : Nat) (a : Nat → Nat) (qph : AR) (qgr : AR) (qne : AR) (qap : AR) (qle : AR) (qfu : AR) (qpc : Int32) (qgd : Int32) (qri : Int32) (qnw : Int32) (qtk : Int32) (qsv : Int32) (qwa : AR) (qgi : AR) (qlo : AR) (qtu : AR) (n : Nat) (i : Int32) (x : Int32) (hpc : qpc = nI n) (hn : n ≤ 8) (hok : X0_appetite_T qne qpc n i x = 0) : Ki l yX0_appetite wsX0_appetite rmX0_appetite dC dI cI cZ [.ref h, .int i, .int x] (xW cI cZ h a qph qgr qne qap qle qfu qpc qgd qri qnw qtk qsv qwa qgi qlo qtu) (xW cI cZ h a qph qgr qne ((X0_appetite qne qap qpc n i x).2) qle qfu qpc qgd qri qnw qtk qsv qwa qgi qlo qtu) (X0_appetite qne qap qpc n i x).1 := by
  refine k_enter_i (cc := cX0_appetite) (maxL := 4) (ret := some .int) (by decide) rfl (Nat.le_of_ble_eq_true rfl) ?_
  intro p e s m below meth c A ls hC hr hlocks hK hP hD hS hA hl
  generalize List.toArray _ = args at hC ⊢
  obtain ⟨hx, hb, hml, hown, hts⟩ := id hC
  have hret : ∀ (H : Heap) (locs : List Loc) (pc : Nat) (ls : Array Slot) (r : Int32), va_S A s.heap H locs → va_P (dC, dI) vwCl (xW cI cZ h a qph qgr qne ((X0_appetite qne qap qpc n i x).2) qle qfu qpc qgd qri qnw qtk qsv qwa qgi qlo qtu) H → va_D A (xW cI cZ h a qph qgr qne ((X0_appetite qne qap qpc n i x).2) qle qfu qpc qgd qri qnw qtk qsv qwa qgi qlo qtu) → r = (X0_appetite qne qap qpc n i x).1 → decode cX0_appetite pc = .ok (.ireturn, 1) → W p l e rmX0_appetite s m args below meth c H locs 0 0 (MQ below (va_Qi (fun r (_ : Unit) => r = (X0_appetite qne qap qpc n i x).1) (kBeh dC dI A (xW cI cZ h a qph qgr qne ((X0_appetite qne qap qpc n i x).2) qle qfu qpc qgd qri qnw qtk qsv qwa qgi qlo qtu)) A) args s 0 0 A) (F0 m pc ls [.int r]) := fun H locs pc ls r hS hP hD hv d => k_iret hx hb hr hlocks hS hP hD hv d
  generalize MQ below _ _ _ _ _ _ = Q at hret ⊢
  have hin : ∀ w ∈ wsX00, w ∈ wsX0_appetite := by decide +kernel
  have hw0 := hts (.fieldLink RX0 19 "ChargePark" "appetiteOf" "[I") (by decide +kernel)
  have hl : lv_has ls 4 [(0, .ref h), (1, .int i), (2, .int x)] := hl
  have hP : va_P (dC, dI) vwCl (xW cI cZ h a qph qgr qne qap qle qfu qpc qgd qri qnw qtk qsv qwa qgi qlo qtu) s.heap := hP
  have hW : ∀ (H : Heap) (locs : List Loc), va_P (dC, dI) vwCl (xW cI cZ h a qph qgr qne qap qle qfu qpc qgd qri qnw qtk qsv qwa qgi qlo qtu) H → va_D A (xW cI cZ h a qph qgr qne qap qle qfu qpc qgd qri qnw qtk qsv qwa qgi qlo qtu) → va_S A s.heap H locs → W p l e rmX0_appetite s m args below meth c H locs 0 0 Q (F0 m 0 ls []) := by
    intro H locs hP hD hS
    refine lv_aload_n hx hb dX0_appetite_0 rfl (lv_at hl 0 rfl) ?_
    refine lv_iload_n hx hb dX0_appetite_1 rfl (lv_at hl 1 rfl) ?_
    by_cases c2 : (X0_requirePoint_T qpc i) = 0
    · refine k_callv (rest := []) (q0 := 0) hC (c_X0_requirePoint l dC dI cI cZ h a qph qgr qne qap qle qfu qpc qgd qri qnw qtk qsv qwa qgi qlo qtu  i c2) (cwV 1 hts gX0_appetite_X0_requirePoint rfl rfl rfl hd_X0_requirePoint ⟨Nat.le_of_ble_eq_true rfl, Nat.le_of_ble_eq_true rfl⟩) hK hP hD hS hA rfl rfl rfl hl.1 (Nat.le_of_ble_eq_true rfl) dX0_appetite_2 rfl ⟨Nat.zero_le _, Nat.zero_le _⟩ (fun H locs hP hD hS => ?_)
      refine lv_iload_n hx hb dX0_appetite_5 rfl (lv_at hl 2 rfl) ?_
      refine lv_iconst (v := 1) hx hb dX0_appetite_6 (by decide) ?_
      refine lv_bipush (v := 32) hx hb dX0_appetite_7 (by decide) ?_
      by_cases c9 : (X0_requireWithin_T x 1 32) = 0
      · refine k_callsv (rest := []) (As := [.int x, .int 1, .int 32]) hC (c_X0_requireWithin l dC dI cI cZ (xW cI cZ h a qph qgr qne qap qle qfu qpc qgd qri qnw qtk qsv qwa qgi qlo qtu) x 1 32 c9) (va_cwS 3 hts gX0_appetite_X0_requireWithin rfl rfl rfl hd_X0_requireWithin ⟨Nat.le_of_ble_eq_true rfl, Nat.le_of_ble_eq_true rfl⟩) hK hP hD hS hA rfl hl.1 (Nat.le_of_ble_eq_true rfl) dX0_appetite_9 rfl ⟨Nat.zero_le _, Nat.zero_le _⟩ (fun H locs hP hD hS => ?_)
        refine lv_aload_n hx hb dX0_appetite_12 rfl (lv_at hl 0 rfl) ?_
        refine lv_iload_n hx hb dX0_appetite_13 rfl (lv_at hl 1 rfl) ?_
        by_cases c14 : (X0_requireCar_T qne i) = 0
        · refine k_callv (rest := []) (q0 := 0) hC (c_X0_requireCar l dC dI cI cZ h a qph qgr qne qap qle qfu qpc qgd qri qnw qtk qsv qwa qgi qlo qtu  i (rq_in hpc hn c2) c14) (cwV 1 hts gX0_appetite_X0_requireCar rfl rfl rfl hd_X0_requireCar ⟨Nat.le_of_ble_eq_true rfl, Nat.le_of_ble_eq_true rfl⟩) hK hP hD hS hA rfl rfl rfl hl.1 (Nat.le_of_ble_eq_true rfl) dX0_appetite_14 rfl ⟨Nat.zero_le _, Nat.zero_le _⟩ (fun H locs hP hD hS => ?_)
          refine lv_aload_n hx hb dX0_appetite_17 rfl (lv_at hl 0 rfl) ?_
          refine va_get (D := (dC, dI)) (ci := 0) (v := .ref (a 3)) (C := RX0) (T := TX0) (N := 16) hx hb hts hin hown hK hP 0 rfl rfl 3 (by decide) hw0 (fun _ h9 => h9) rfl dX0_appetite_18 ?_
          refine lv_iload_n hx hb dX0_appetite_21 rfl (lv_at hl 1 rfl) ?_
          refine va_iald (f := qap) hx hb hK hP 4 0 rfl rfl (rq_in hpc hn c2) dX0_appetite_22 ?_
          refine lv_istore_n (lv' := [(3, .int (qap i.toNatClampNeg)), (0, .ref h), (1, .int i), (2, .int x)]) hx hb dX0_appetite_23 rfl hl (by decide) rfl (fun ls hl => ?_)
          refine lv_aload_n hx hb dX0_appetite_24 rfl (lv_at hl 1 rfl) ?_
          refine va_get (D := (dC, dI)) (ci := 0) (v := .ref (a 3)) (C := RX0) (T := TX0) (N := 16) hx hb hts hin hown hK hP 0 rfl rfl 3 (by decide) hw0 (fun _ h9 => h9) rfl dX0_appetite_25 ?_
          refine lv_iload_n hx hb dX0_appetite_28 rfl (lv_at hl 2 rfl) ?_
          refine lv_iload_n hx hb dX0_appetite_29 rfl (lv_at hl 3 rfl) ?_
          refine va_iast (f := qap) hx hb hK hP hD hS 4 0 rfl rfl (rq_in hpc hn c2) dX0_appetite_30 (fun H locs hP hD hS => ?_)
          obtain ⟨z1, hz1⟩ : ∃ z : AR, z = (upd qap i.toNatClampNeg x) := ⟨_, rfl⟩
          rw [← hz1] at hP hD
          have hP : va_P (dC, dI) vwCl (xW cI cZ h a qph qgr qne z1 qle qfu qpc qgd qri qnw qtk qsv qwa qgi qlo qtu) H := hP
          have hD : va_D A (xW cI cZ h a qph qgr qne z1 qle qfu qpc qgd qri qnw qtk qsv qwa qgi qlo qtu) := hD
          refine lv_iload_n hx hb dX0_appetite_31 rfl (lv_at hl 0 rfl) ?_
          have hP9 := hP; have hD9 := hD
          subst hz1
          have hP8 : va_P (dC, dI) vwCl (xW cI cZ h a qph qgr qne ((X0_appetite qne qap qpc n i x).2) qle qfu qpc qgd qri qnw qtk qsv qwa qgi qlo qtu) H := by rw [X0_appetite, if_pos c2, if_pos c9, if_pos c14]; exact hP9
          have hD8 : va_D A (xW cI cZ h a qph qgr qne ((X0_appetite qne qap qpc n i x).2) qle qfu qpc qgd qri qnw qtk qsv qwa qgi qlo qtu) := by rw [X0_appetite, if_pos c2, if_pos c9, if_pos c14]; exact hD9
          exact hret H locs 32 ls (qap i.toNatClampNeg) hS hP8 hD8 (by rw [X0_appetite, if_pos c2, if_pos c9, if_pos c14]) dX0_appetite_32
        · rw [X0_appetite_T, if_pos c2, if_pos c9, if_neg c14] at hok
          exact absurd hok (by decide)
      · rw [X0_appetite_T, if_pos c2, if_neg c9] at hok
        exact absurd hok (by decide)
    · rw [X0_appetite_T, if_neg c2] at hok
      exact absurd hok (by decide)
  exact hW _ _ hP hD hS
abbrev rmxX0_appetite : Room := { frames := 7, cells := 1, slots := 6, locals := 104 }
set_option maxHeartbeats 4000000 in
set_option maxRecDepth 100000 in
theorem cx_X0_appetite (l : Launch) (hl0 : l.stackTraces = false) (dC : Nat → ClassId) (dI : Nat → Nat → Nat) (cI cZ : ClassId) (h : Nat) (a : Nat → Nat) (qph : AR) (qgr : AR) (qne : AR) (qap : AR) (qle : AR) (qfu : AR) (qpc : Int32) (qgd : Int32) (qri : Int32) (qnw : Int32) (qtk : Int32) (qsv : Int32) (qwa : AR) (qgi : AR) (qlo : AR) (qtu : AR) (n : Nat) (i : Int32) (x : Int32) (hpc : qpc = nI n) (hn : n ≤ 8) (hbad : ¬ X0_appetite_T qne qpc n i x = 0) : Kx l yX0_appetite wsX0_appetite rmxX0_appetite dC dI cI cZ [.ref h, .int i, .int x] (xW cI cZ h a qph qgr qne qap qle qfu qpc qgd qri qnw qtk qsv qwa qgi qlo qtu) (fun E => (X0_appetite_T qne qpc n i x = 1 ∧ E = nIO) ∨ (X0_appetite_T qne qpc n i x = 2 ∧ E = nIA) ∨ (X0_appetite_T qne qpc n i x = 3 ∧ E = nIS)) := by
  refine k_enter_x (cc := cX0_appetite) (maxL := 4) (ret := some .int) (by decide) rfl (Nat.le_of_ble_eq_true rfl) ?_
  intro p e s m below meth c A ls hC hlocks htab hK hNs hZ hP hD hS hA hl
  generalize List.toArray _ = args at hC ⊢
  obtain ⟨hx, hb, hml, hown, hts⟩ := id hC
  have hl : lv_has ls 4 [(0, .ref h), (1, .int i), (2, .int x)] := hl
  have hP : va_P (dC, dI) vwCl (xW cI cZ h a qph qgr qne qap qle qfu qpc qgd qri qnw qtk qsv qwa qgi qlo qtu) s.heap := hP
  refine lv_aload_n hx hb dX0_appetite_0 rfl (lv_at hl 0 rfl) ?_
  refine lv_iload_n hx hb dX0_appetite_1 rfl (lv_at hl 1 rfl) ?_
  by_cases c2 : (X0_requirePoint_T qpc i) = 0
  · refine k_callv (rest := []) (q0 := 0) hC (c_X0_requirePoint l dC dI cI cZ h a qph qgr qne qap qle qfu qpc qgd qri qnw qtk qsv qwa qgi qlo qtu  i c2) (cwV 1 hts gX0_appetite_X0_requirePoint rfl rfl rfl hd_X0_requirePoint ⟨Nat.le_of_ble_eq_true rfl, Nat.le_of_ble_eq_true rfl⟩) hK hP hD hS hA rfl rfl rfl hl.1 (Nat.le_of_ble_eq_true rfl) dX0_appetite_2 rfl ⟨Nat.zero_le _, Nat.zero_le _⟩ (fun H locs hP hD hS => ?_)
    refine lv_iload_n hx hb dX0_appetite_5 rfl (lv_at hl 2 rfl) ?_
    refine lv_iconst (v := 1) hx hb dX0_appetite_6 (by decide) ?_
    refine lv_bipush (v := 32) hx hb dX0_appetite_7 (by decide) ?_
    by_cases c9 : (X0_requireWithin_T x 1 32) = 0
    · refine k_callsv (rest := []) (As := [.int x, .int 1, .int 32]) hC (c_X0_requireWithin l dC dI cI cZ (xW cI cZ h a qph qgr qne qap qle qfu qpc qgd qri qnw qtk qsv qwa qgi qlo qtu) x 1 32 c9) (va_cwS 3 hts gX0_appetite_X0_requireWithin rfl rfl rfl hd_X0_requireWithin ⟨Nat.le_of_ble_eq_true rfl, Nat.le_of_ble_eq_true rfl⟩) hK hP hD hS hA rfl hl.1 (Nat.le_of_ble_eq_true rfl) dX0_appetite_9 rfl ⟨Nat.zero_le _, Nat.zero_le _⟩ (fun H locs hP hD hS => ?_)
      refine lv_aload_n hx hb dX0_appetite_12 rfl (lv_at hl 0 rfl) ?_
      refine lv_iload_n hx hb dX0_appetite_13 rfl (lv_at hl 1 rfl) ?_
      by_cases c14 : (X0_requireCar_T qne i) = 0
      · refine k_callv (rest := []) (q0 := 0) hC (c_X0_requireCar l dC dI cI cZ h a qph qgr qne qap qle qfu qpc qgd qri qnw qtk qsv qwa qgi qlo qtu  i (rq_in hpc hn c2) c14) (cwV 1 hts gX0_appetite_X0_requireCar rfl rfl rfl hd_X0_requireCar ⟨Nat.le_of_ble_eq_true rfl, Nat.le_of_ble_eq_true rfl⟩) hK hP hD hS hA rfl rfl rfl hl.1 (Nat.le_of_ble_eq_true rfl) dX0_appetite_14 rfl ⟨Nat.zero_le _, Nat.zero_le _⟩ (fun H locs hP hD hS => ?_)
        exact absurd (by rw [X0_appetite_T, if_pos c2, if_pos c9, if_pos c14]) hbad
      · refine kx_callV (rest := []) (q0 := 0) hC (cx_X0_requireCar l hl0 dC dI cI cZ h a qph qgr qne qap qle qfu qpc qgd qri qnw qtk qsv qwa qgi qlo qtu  i (rq_in hpc hn c2) c14) (cwV 1 hts gX0_appetite_X0_requireCar rfl rfl rfl hd_X0_requireCar ⟨Nat.le_of_ble_eq_true rfl, Nat.le_of_ble_eq_true rfl⟩) hK hNs hZ hP hD hS hA rfl rfl rfl hl.1 (Nat.le_of_ble_eq_true rfl) dX0_appetite_14 rfl ⟨Nat.le_of_ble_eq_true rfl, Nat.le_of_ble_eq_true rfl⟩ (fun E ce q H locs hex hP hD hS hcell hv hcl => ?_)
        exact kx_out htab hlocks hcell hv hcl hS hP hD (Or.inr (Or.inr (⟨by rw [X0_appetite_T, if_pos c2, if_pos c9, if_neg c14], hex.2⟩))) (Nat.le_of_ble_eq_true rfl) (Nat.le_of_ble_eq_true rfl)
    · refine kx_callS (rest := []) (As := [.int x, .int 1, .int 32]) hC (cx_X0_requireWithin l hl0 dC dI cI cZ (xW cI cZ h a qph qgr qne qap qle qfu qpc qgd qri qnw qtk qsv qwa qgi qlo qtu) x 1 32 c9) (va_cwS 3 hts gX0_appetite_X0_requireWithin rfl rfl rfl hd_X0_requireWithin ⟨Nat.le_of_ble_eq_true rfl, Nat.le_of_ble_eq_true rfl⟩) hK hNs hZ hP hD hS hA rfl hl.1 (Nat.le_of_ble_eq_true rfl) dX0_appetite_9 rfl ⟨Nat.le_of_ble_eq_true rfl, Nat.le_of_ble_eq_true rfl⟩ (fun E ce q H locs hex hP hD hS hcell hv hcl => ?_)
      exact kx_out htab hlocks hcell hv hcl hS hP hD (Or.inr (Or.inl ⟨by rw [X0_appetite_T, if_pos c2, if_neg c9], hex.2⟩)) (Nat.le_of_ble_eq_true rfl) (Nat.le_of_ble_eq_true rfl)
  · refine kx_callV (rest := []) (q0 := 0) hC (cx_X0_requirePoint l hl0 dC dI cI cZ h a qph qgr qne qap qle qfu qpc qgd qri qnw qtk qsv qwa qgi qlo qtu  i c2) (cwV 1 hts gX0_appetite_X0_requirePoint rfl rfl rfl hd_X0_requirePoint ⟨Nat.le_of_ble_eq_true rfl, Nat.le_of_ble_eq_true rfl⟩) hK hNs hZ hP hD hS hA rfl rfl rfl hl.1 (Nat.le_of_ble_eq_true rfl) dX0_appetite_2 rfl ⟨Nat.le_of_ble_eq_true rfl, Nat.le_of_ble_eq_true rfl⟩ (fun E ce q H locs hex hP hD hS hcell hv hcl => ?_)
    exact kx_out htab hlocks hcell hv hcl hS hP hD (Or.inl ⟨by rw [X0_appetite_T, if_neg c2], hex.2⟩) (Nat.le_of_ble_eq_true rfl) (Nat.le_of_ble_eq_true rfl)
def X0_stay_T (qne : AR) (qpc : Int32) (n : Nat) (i : Int32) (x : Int32) : Int32 := (if (X0_requirePoint_T qpc i) = 0 then (if (X0_requireWithin_T x 1 500) = 0 then (if (X0_requireCar_T qne i) = 0 then 0 else 3) else 2) else 1)
def X0_stay (qne : AR) (qle : AR) (qpc : Int32) (qnw : Int32) (n : Nat) (i : Int32) (x : Int32) : Int32 × AR := (if (X0_requirePoint_T qpc i) = 0 then (if (X0_requireWithin_T x 1 500) = 0 then (if (X0_requireCar_T qne i) = 0 then ((X0_stepsLeftAt (upd qle i.toNatClampNeg ((if (qle i.toNatClampNeg) < qnw then qnw else (qle i.toNatClampNeg)) + x)) qnw i), (upd qle i.toNatClampNeg ((if (qle i.toNatClampNeg) < qnw then qnw else (qle i.toNatClampNeg)) + x))) else (0, qle)) else (0, qle)) else (0, qle))
abbrev rmX0_stay : Room := { frames := 2, cells := 0, slots := 0, locals := 42 }
theorem hd_X0_stay : yX0_stay.cls = RX0 ∧ yX0_stay.cls ≠ "java/lang/invoke/MethodHandle" ∧ yX0_stay.cls ≠ "java/lang/invoke/VarHandle" ∧ (parseMethodDescriptor yX0_stay.desc).map (fun d => d.parameters.length) = some 2 := by decide +kernel
set_option maxHeartbeats 4000000 in
set_option maxRecDepth 100000 in
theorem c_X0_stay (l : Launch) (dC : Nat → ClassId) (dI : Nat → Nat → Nat) (cI cZ : ClassId) (h : Nat) (a : Nat → Nat) (qph : AR) (qgr : AR) (qne : AR) (qap : AR) (qle : AR) (qfu : AR) (qpc : Int32) (qgd : Int32) (qri : Int32) (qnw : Int32) (qtk : Int32) (qsv : Int32) (qwa : AR) (qgi : AR) (qlo : AR) (qtu : AR) (n : Nat) (i : Int32) (x : Int32) (hpc : qpc = nI n) (hn : n ≤ 8) (hok : X0_stay_T qne qpc n i x = 0) : Ki l yX0_stay wsX0_stay rmX0_stay dC dI cI cZ [.ref h, .int i, .int x] (xW cI cZ h a qph qgr qne qap qle qfu qpc qgd qri qnw qtk qsv qwa qgi qlo qtu) (xW cI cZ h a qph qgr qne qap ((X0_stay qne qle qpc qnw n i x).2) qfu qpc qgd qri qnw qtk qsv qwa qgi qlo qtu) (X0_stay qne qle qpc qnw n i x).1 := by
  refine k_enter_i (cc := cX0_stay) (maxL := 3) (ret := some .int) (by decide) rfl (Nat.le_of_ble_eq_true rfl) ?_
  intro p e s m below meth c A ls hC hr hlocks hK hP hD hS hA hl
  generalize List.toArray _ = args at hC ⊢
  obtain ⟨hx, hb, hml, hown, hts⟩ := id hC
  have hret : ∀ (H : Heap) (locs : List Loc) (pc : Nat) (ls : Array Slot) (r : Int32), va_S A s.heap H locs → va_P (dC, dI) vwCl (xW cI cZ h a qph qgr qne qap ((X0_stay qne qle qpc qnw n i x).2) qfu qpc qgd qri qnw qtk qsv qwa qgi qlo qtu) H → va_D A (xW cI cZ h a qph qgr qne qap ((X0_stay qne qle qpc qnw n i x).2) qfu qpc qgd qri qnw qtk qsv qwa qgi qlo qtu) → r = (X0_stay qne qle qpc qnw n i x).1 → decode cX0_stay pc = .ok (.ireturn, 1) → W p l e rmX0_stay s m args below meth c H locs 0 0 (MQ below (va_Qi (fun r (_ : Unit) => r = (X0_stay qne qle qpc qnw n i x).1) (kBeh dC dI A (xW cI cZ h a qph qgr qne qap ((X0_stay qne qle qpc qnw n i x).2) qfu qpc qgd qri qnw qtk qsv qwa qgi qlo qtu)) A) args s 0 0 A) (F0 m pc ls [.int r]) := fun H locs pc ls r hS hP hD hv d => k_iret hx hb hr hlocks hS hP hD hv d
  generalize MQ below _ _ _ _ _ _ = Q at hret ⊢
  have hin : ∀ w ∈ wsX00, w ∈ wsX0_stay := by decide +kernel
  have hw0 := hts (.fieldLink RX0 22 "ChargePark" "leavesAt" "[I") (by decide +kernel)
  have hw1 := hts (.fieldLink RX0 74 "ChargePark" "now" "I") (by decide +kernel)
  have hw2 := hts (.methodLink RX0 87 Lib.Math.max.name) (by decide +kernel)
  have hw3 := hts (.static Lib.Math.max.name) (by decide +kernel)
  have hw4 := hts (.initialized "java/lang/Math") (by decide +kernel)
  have hw5 := hts (.code Lib.Math.max.name Lib.Math.max.code 2 (some .int)) (by decide +kernel)
  have hl : lv_has ls 3 [(0, .ref h), (1, .int i), (2, .int x)] := hl
  have hP : va_P (dC, dI) vwCl (xW cI cZ h a qph qgr qne qap qle qfu qpc qgd qri qnw qtk qsv qwa qgi qlo qtu) s.heap := hP
  have hW : ∀ (H : Heap) (locs : List Loc), va_P (dC, dI) vwCl (xW cI cZ h a qph qgr qne qap qle qfu qpc qgd qri qnw qtk qsv qwa qgi qlo qtu) H → va_D A (xW cI cZ h a qph qgr qne qap qle qfu qpc qgd qri qnw qtk qsv qwa qgi qlo qtu) → va_S A s.heap H locs → W p l e rmX0_stay s m args below meth c H locs 0 0 Q (F0 m 0 ls []) := by
    intro H locs hP hD hS
    refine lv_aload_n hx hb dX0_stay_0 rfl (lv_at hl 0 rfl) ?_
    refine lv_iload_n hx hb dX0_stay_1 rfl (lv_at hl 1 rfl) ?_
    by_cases c2 : (X0_requirePoint_T qpc i) = 0
    · refine k_callv (rest := []) (q0 := 0) hC (c_X0_requirePoint l dC dI cI cZ h a qph qgr qne qap qle qfu qpc qgd qri qnw qtk qsv qwa qgi qlo qtu  i c2) (cwV 1 hts gX0_stay_X0_requirePoint rfl rfl rfl hd_X0_requirePoint ⟨Nat.le_of_ble_eq_true rfl, Nat.le_of_ble_eq_true rfl⟩) hK hP hD hS hA rfl rfl rfl hl.1 (Nat.le_of_ble_eq_true rfl) dX0_stay_2 rfl ⟨Nat.zero_le _, Nat.zero_le _⟩ (fun H locs hP hD hS => ?_)
      refine lv_iload_n hx hb dX0_stay_5 rfl (lv_at hl 2 rfl) ?_
      refine lv_iconst (v := 1) hx hb dX0_stay_6 (by decide) ?_
      refine lv_sipush (v := 500) hx hb dX0_stay_7 (by decide) ?_
      by_cases c10 : (X0_requireWithin_T x 1 500) = 0
      · refine k_callsv (rest := []) (As := [.int x, .int 1, .int 500]) hC (c_X0_requireWithin l dC dI cI cZ (xW cI cZ h a qph qgr qne qap qle qfu qpc qgd qri qnw qtk qsv qwa qgi qlo qtu) x 1 500 c10) (va_cwS 3 hts gX0_stay_X0_requireWithin rfl rfl rfl hd_X0_requireWithin ⟨Nat.le_of_ble_eq_true rfl, Nat.le_of_ble_eq_true rfl⟩) hK hP hD hS hA rfl hl.1 (Nat.le_of_ble_eq_true rfl) dX0_stay_10 rfl ⟨Nat.zero_le _, Nat.zero_le _⟩ (fun H locs hP hD hS => ?_)
        refine lv_aload_n hx hb dX0_stay_13 rfl (lv_at hl 0 rfl) ?_
        refine lv_iload_n hx hb dX0_stay_14 rfl (lv_at hl 1 rfl) ?_
        by_cases c15 : (X0_requireCar_T qne i) = 0
        · refine k_callv (rest := []) (q0 := 0) hC (c_X0_requireCar l dC dI cI cZ h a qph qgr qne qap qle qfu qpc qgd qri qnw qtk qsv qwa qgi qlo qtu  i (rq_in hpc hn c2) c15) (cwV 1 hts gX0_stay_X0_requireCar rfl rfl rfl hd_X0_requireCar ⟨Nat.le_of_ble_eq_true rfl, Nat.le_of_ble_eq_true rfl⟩) hK hP hD hS hA rfl rfl rfl hl.1 (Nat.le_of_ble_eq_true rfl) dX0_stay_15 rfl ⟨Nat.zero_le _, Nat.zero_le _⟩ (fun H locs hP hD hS => ?_)
          refine lv_aload_n hx hb dX0_stay_18 rfl (lv_at hl 0 rfl) ?_
          refine va_get (D := (dC, dI)) (ci := 0) (v := .ref (a 4)) (C := RX0) (T := TX0) (N := 16) hx hb hts hin hown hK hP 0 rfl rfl 4 (by decide) hw0 (fun _ h9 => h9) rfl dX0_stay_19 ?_
          refine lv_iload_n hx hb dX0_stay_22 rfl (lv_at hl 1 rfl) ?_
          refine lv_aload_n hx hb dX0_stay_23 rfl (lv_at hl 0 rfl) ?_
          refine va_get (D := (dC, dI)) (ci := 0) (v := .ref (a 4)) (C := RX0) (T := TX0) (N := 16) hx hb hts hin hown hK hP 0 rfl rfl 4 (by decide) hw0 (fun _ h9 => h9) rfl dX0_stay_24 ?_
          refine lv_iload_n hx hb dX0_stay_27 rfl (lv_at hl 1 rfl) ?_
          refine va_iald (f := qle) hx hb hK hP 5 0 rfl rfl (rq_in hpc hn c2) dX0_stay_28 ?_
          refine lv_aload_n hx hb dX0_stay_29 rfl (lv_at hl 0 rfl) ?_
          refine va_get (D := (dC, dI)) (ci := 0) (v := .int qnw) (C := RX0) (T := TX0) (N := 16) hx hb hts hin hown hK hP 0 rfl rfl 9 (by decide) hw1 (fun _ h9 => h9) rfl dX0_stay_30 ?_
          refine va_mmax hx hb (hml.trans hl.1.symm) hown hw2 hw3 hw4 hw5 (Nat.le_of_ble_eq_true rfl) (Nat.le_of_ble_eq_true rfl) (Nat.zero_le _) (Nat.zero_le _) dX0_stay_33 ?_
          refine lv_iload_n hx hb dX0_stay_36 rfl (lv_at hl 2 rfl) ?_
          refine lv_iadd hx hb dX0_stay_37 ?_
          refine va_iast (f := qle) hx hb hK hP hD hS 5 0 rfl rfl (rq_in hpc hn c2) dX0_stay_38 (fun H locs hP hD hS => ?_)
          obtain ⟨z1, hz1⟩ : ∃ z : AR, z = (upd qle i.toNatClampNeg ((if (qle i.toNatClampNeg) < qnw then qnw else (qle i.toNatClampNeg)) + x)) := ⟨_, rfl⟩
          rw [← hz1] at hP hD
          have hP : va_P (dC, dI) vwCl (xW cI cZ h a qph qgr qne qap z1 qfu qpc qgd qri qnw qtk qsv qwa qgi qlo qtu) H := hP
          have hD : va_D A (xW cI cZ h a qph qgr qne qap z1 qfu qpc qgd qri qnw qtk qsv qwa qgi qlo qtu) := hD
          refine lv_aload_n hx hb dX0_stay_39 rfl (lv_at hl 0 rfl) ?_
          refine lv_iload_n hx hb dX0_stay_40 rfl (lv_at hl 1 rfl) ?_
          refine k_calli (rest := []) (q0 := 0) hC (c_X0_stepsLeftAt l dC dI cI cZ h a qph qgr qne qap z1 qfu qpc qgd qri qnw qtk qsv qwa qgi qlo qtu  i (rq_in hpc hn c2)) (cwV 1 hts gX0_stay_X0_stepsLeftAt rfl rfl rfl hd_X0_stepsLeftAt ⟨Nat.le_of_ble_eq_true rfl, Nat.le_of_ble_eq_true rfl⟩) hK hP hD hS hA rfl rfl rfl hl.1 (Nat.le_of_ble_eq_true rfl) dX0_stay_41 rfl ⟨Nat.zero_le _, Nat.zero_le _⟩ (fun H locs hP hD hS => ?_)
          have hP9 := hP; have hD9 := hD
          subst hz1
          have hP8 : va_P (dC, dI) vwCl (xW cI cZ h a qph qgr qne qap ((X0_stay qne qle qpc qnw n i x).2) qfu qpc qgd qri qnw qtk qsv qwa qgi qlo qtu) H := by rw [X0_stay, if_pos c2, if_pos c10, if_pos c15]; exact hP9
          have hD8 : va_D A (xW cI cZ h a qph qgr qne qap ((X0_stay qne qle qpc qnw n i x).2) qfu qpc qgd qri qnw qtk qsv qwa qgi qlo qtu) := by rw [X0_stay, if_pos c2, if_pos c10, if_pos c15]; exact hD9
          exact hret H locs 44 ls (X0_stepsLeftAt (upd qle i.toNatClampNeg ((if (qle i.toNatClampNeg) < qnw then qnw else (qle i.toNatClampNeg)) + x)) qnw i) hS hP8 hD8 (by rw [X0_stay, if_pos c2, if_pos c10, if_pos c15]) dX0_stay_44
        · rw [X0_stay_T, if_pos c2, if_pos c10, if_neg c15] at hok
          exact absurd hok (by decide)
      · rw [X0_stay_T, if_pos c2, if_neg c10] at hok
        exact absurd hok (by decide)
    · rw [X0_stay_T, if_neg c2] at hok
      exact absurd hok (by decide)
  exact hW _ _ hP hD hS
abbrev rmxX0_stay : Room := { frames := 7, cells := 1, slots := 6, locals := 104 }
set_option maxHeartbeats 4000000 in
set_option maxRecDepth 100000 in
theorem cx_X0_stay (l : Launch) (hl0 : l.stackTraces = false) (dC : Nat → ClassId) (dI : Nat → Nat → Nat) (cI cZ : ClassId) (h : Nat) (a : Nat → Nat) (qph : AR) (qgr : AR) (qne : AR) (qap : AR) (qle : AR) (qfu : AR) (qpc : Int32) (qgd : Int32) (qri : Int32) (qnw : Int32) (qtk : Int32) (qsv : Int32) (qwa : AR) (qgi : AR) (qlo : AR) (qtu : AR) (n : Nat) (i : Int32) (x : Int32) (hpc : qpc = nI n) (hn : n ≤ 8) (hbad : ¬ X0_stay_T qne qpc n i x = 0) : Kx l yX0_stay wsX0_stay rmxX0_stay dC dI cI cZ [.ref h, .int i, .int x] (xW cI cZ h a qph qgr qne qap qle qfu qpc qgd qri qnw qtk qsv qwa qgi qlo qtu) (fun E => (X0_stay_T qne qpc n i x = 1 ∧ E = nIO) ∨ (X0_stay_T qne qpc n i x = 2 ∧ E = nIA) ∨ (X0_stay_T qne qpc n i x = 3 ∧ E = nIS)) := by
  refine k_enter_x (cc := cX0_stay) (maxL := 3) (ret := some .int) (by decide) rfl (Nat.le_of_ble_eq_true rfl) ?_
  intro p e s m below meth c A ls hC hlocks htab hK hNs hZ hP hD hS hA hl
  generalize List.toArray _ = args at hC ⊢
  obtain ⟨hx, hb, hml, hown, hts⟩ := id hC
  have hl : lv_has ls 3 [(0, .ref h), (1, .int i), (2, .int x)] := hl
  have hP : va_P (dC, dI) vwCl (xW cI cZ h a qph qgr qne qap qle qfu qpc qgd qri qnw qtk qsv qwa qgi qlo qtu) s.heap := hP
  refine lv_aload_n hx hb dX0_stay_0 rfl (lv_at hl 0 rfl) ?_
  refine lv_iload_n hx hb dX0_stay_1 rfl (lv_at hl 1 rfl) ?_
  by_cases c2 : (X0_requirePoint_T qpc i) = 0
  · refine k_callv (rest := []) (q0 := 0) hC (c_X0_requirePoint l dC dI cI cZ h a qph qgr qne qap qle qfu qpc qgd qri qnw qtk qsv qwa qgi qlo qtu  i c2) (cwV 1 hts gX0_stay_X0_requirePoint rfl rfl rfl hd_X0_requirePoint ⟨Nat.le_of_ble_eq_true rfl, Nat.le_of_ble_eq_true rfl⟩) hK hP hD hS hA rfl rfl rfl hl.1 (Nat.le_of_ble_eq_true rfl) dX0_stay_2 rfl ⟨Nat.zero_le _, Nat.zero_le _⟩ (fun H locs hP hD hS => ?_)
    refine lv_iload_n hx hb dX0_stay_5 rfl (lv_at hl 2 rfl) ?_
    refine lv_iconst (v := 1) hx hb dX0_stay_6 (by decide) ?_
    refine lv_sipush (v := 500) hx hb dX0_stay_7 (by decide) ?_
    by_cases c10 : (X0_requireWithin_T x 1 500) = 0
    · refine k_callsv (rest := []) (As := [.int x, .int 1, .int 500]) hC (c_X0_requireWithin l dC dI cI cZ (xW cI cZ h a qph qgr qne qap qle qfu qpc qgd qri qnw qtk qsv qwa qgi qlo qtu) x 1 500 c10) (va_cwS 3 hts gX0_stay_X0_requireWithin rfl rfl rfl hd_X0_requireWithin ⟨Nat.le_of_ble_eq_true rfl, Nat.le_of_ble_eq_true rfl⟩) hK hP hD hS hA rfl hl.1 (Nat.le_of_ble_eq_true rfl) dX0_stay_10 rfl ⟨Nat.zero_le _, Nat.zero_le _⟩ (fun H locs hP hD hS => ?_)
      refine lv_aload_n hx hb dX0_stay_13 rfl (lv_at hl 0 rfl) ?_
      refine lv_iload_n hx hb dX0_stay_14 rfl (lv_at hl 1 rfl) ?_
      by_cases c15 : (X0_requireCar_T qne i) = 0
      · refine k_callv (rest := []) (q0 := 0) hC (c_X0_requireCar l dC dI cI cZ h a qph qgr qne qap qle qfu qpc qgd qri qnw qtk qsv qwa qgi qlo qtu  i (rq_in hpc hn c2) c15) (cwV 1 hts gX0_stay_X0_requireCar rfl rfl rfl hd_X0_requireCar ⟨Nat.le_of_ble_eq_true rfl, Nat.le_of_ble_eq_true rfl⟩) hK hP hD hS hA rfl rfl rfl hl.1 (Nat.le_of_ble_eq_true rfl) dX0_stay_15 rfl ⟨Nat.zero_le _, Nat.zero_le _⟩ (fun H locs hP hD hS => ?_)
        exact absurd (by rw [X0_stay_T, if_pos c2, if_pos c10, if_pos c15]) hbad
      · refine kx_callV (rest := []) (q0 := 0) hC (cx_X0_requireCar l hl0 dC dI cI cZ h a qph qgr qne qap qle qfu qpc qgd qri qnw qtk qsv qwa qgi qlo qtu  i (rq_in hpc hn c2) c15) (cwV 1 hts gX0_stay_X0_requireCar rfl rfl rfl hd_X0_requireCar ⟨Nat.le_of_ble_eq_true rfl, Nat.le_of_ble_eq_true rfl⟩) hK hNs hZ hP hD hS hA rfl rfl rfl hl.1 (Nat.le_of_ble_eq_true rfl) dX0_stay_15 rfl ⟨Nat.le_of_ble_eq_true rfl, Nat.le_of_ble_eq_true rfl⟩ (fun E ce q H locs hex hP hD hS hcell hv hcl => ?_)
        exact kx_out htab hlocks hcell hv hcl hS hP hD (Or.inr (Or.inr (⟨by rw [X0_stay_T, if_pos c2, if_pos c10, if_neg c15], hex.2⟩))) (Nat.le_of_ble_eq_true rfl) (Nat.le_of_ble_eq_true rfl)
    · refine kx_callS (rest := []) (As := [.int x, .int 1, .int 500]) hC (cx_X0_requireWithin l hl0 dC dI cI cZ (xW cI cZ h a qph qgr qne qap qle qfu qpc qgd qri qnw qtk qsv qwa qgi qlo qtu) x 1 500 c10) (va_cwS 3 hts gX0_stay_X0_requireWithin rfl rfl rfl hd_X0_requireWithin ⟨Nat.le_of_ble_eq_true rfl, Nat.le_of_ble_eq_true rfl⟩) hK hNs hZ hP hD hS hA rfl hl.1 (Nat.le_of_ble_eq_true rfl) dX0_stay_10 rfl ⟨Nat.le_of_ble_eq_true rfl, Nat.le_of_ble_eq_true rfl⟩ (fun E ce q H locs hex hP hD hS hcell hv hcl => ?_)
      exact kx_out htab hlocks hcell hv hcl hS hP hD (Or.inr (Or.inl ⟨by rw [X0_stay_T, if_pos c2, if_neg c10], hex.2⟩)) (Nat.le_of_ble_eq_true rfl) (Nat.le_of_ble_eq_true rfl)
  · refine kx_callV (rest := []) (q0 := 0) hC (cx_X0_requirePoint l hl0 dC dI cI cZ h a qph qgr qne qap qle qfu qpc qgd qri qnw qtk qsv qwa qgi qlo qtu  i c2) (cwV 1 hts gX0_stay_X0_requirePoint rfl rfl rfl hd_X0_requirePoint ⟨Nat.le_of_ble_eq_true rfl, Nat.le_of_ble_eq_true rfl⟩) hK hNs hZ hP hD hS hA rfl rfl rfl hl.1 (Nat.le_of_ble_eq_true rfl) dX0_stay_2 rfl ⟨Nat.le_of_ble_eq_true rfl, Nat.le_of_ble_eq_true rfl⟩ (fun E ce q H locs hex hP hD hS hcell hv hcl => ?_)
    exact kx_out htab hlocks hcell hv hcl hS hP hD (Or.inl ⟨by rw [X0_stay_T, if_neg c2], hex.2⟩) (Nat.le_of_ble_eq_true rfl) (Nat.le_of_ble_eq_true rfl)
def X0_step_L14 (qph : AR) (qgr : AR) (qap : AR) (qle : AR) (qfu : AR) (qgd : Int32) (qri : Int32) (n : Nat) (i : Int32) : Nat → Nat → AR → Int32 → Int32 → AR → AR → AR → AR → AR × Int32 × Int32 × AR × AR × AR × AR
  | 0, k, vne, vnw, vtk, vwa, vgi, vlo, vtu => (vne, vnw, vtk, vwa, vgi, vlo, vtu)
  | j + 1, k, vne, vnw, vtk, vwa, vgi, vlo, vtu => X0_step_L14 qph qgr qap qle qfu qgd qri n i  j (k + 1) ((X0_takeWhatIsGiven qph vne vtk ((X0_shareCurrents qph qgr vne qap qle qfu qgd qri vnw vwa vgi vlo vtu n).2.1) n).1) (vnw + 1) ((X0_takeWhatIsGiven qph vne vtk ((X0_shareCurrents qph qgr vne qap qle qfu qgd qri vnw vwa vgi vlo vtu n).2.1) n).2) ((X0_shareCurrents qph qgr vne qap qle qfu qgd qri vnw vwa vgi vlo vtu n).1) ((X0_shareCurrents qph qgr vne qap qle qfu qgd qri vnw vwa vgi vlo vtu n).2.1) ((X0_shareCurrents qph qgr vne qap qle qfu qgd qri vnw vwa vgi vlo vtu n).2.2.1) ((X0_shareCurrents qph qgr vne qap qle qfu qgd qri vnw vwa vgi vlo vtu n).2.2.2)
def X0_step_T (n : Nat) (i : Int32) : Int32 := (if (X0_requireWithin_T i 1 50) = 0 then 0 else 1)
def X0_step (qph : AR) (qgr : AR) (qne : AR) (qap : AR) (qle : AR) (qfu : AR) (qgd : Int32) (qri : Int32) (qnw : Int32) (qtk : Int32) (qwa : AR) (qgi : AR) (qlo : AR) (qtu : AR) (n : Nat) (i : Int32) : Int32 × AR × Int32 × Int32 × AR × AR × AR × AR := (if (X0_requireWithin_T i 1 50) = 0 then ((((X0_step_L14 qph qgr qap qle qfu qgd qri n i  i.toNatClampNeg 0 qne qnw qtk qwa qgi qlo qtu).2.2.1) - qtk), ((X0_step_L14 qph qgr qap qle qfu qgd qri n i  i.toNatClampNeg 0 qne qnw qtk qwa qgi qlo qtu).1), ((X0_step_L14 qph qgr qap qle qfu qgd qri n i  i.toNatClampNeg 0 qne qnw qtk qwa qgi qlo qtu).2.1), ((X0_step_L14 qph qgr qap qle qfu qgd qri n i  i.toNatClampNeg 0 qne qnw qtk qwa qgi qlo qtu).2.2.1), ((X0_step_L14 qph qgr qap qle qfu qgd qri n i  i.toNatClampNeg 0 qne qnw qtk qwa qgi qlo qtu).2.2.2.1), ((X0_step_L14 qph qgr qap qle qfu qgd qri n i  i.toNatClampNeg 0 qne qnw qtk qwa qgi qlo qtu).2.2.2.2.1), ((X0_step_L14 qph qgr qap qle qfu qgd qri n i  i.toNatClampNeg 0 qne qnw qtk qwa qgi qlo qtu).2.2.2.2.2.1), ((X0_step_L14 qph qgr qap qle qfu qgd qri n i  i.toNatClampNeg 0 qne qnw qtk qwa qgi qlo qtu).2.2.2.2.2.2)) else (0, qne, qnw, qtk, qwa, qgi, qlo, qtu))
abbrev rmX0_step : Room := { frames := 6, cells := 0, slots := 0, locals := 123 }
theorem hd_X0_step : yX0_step.cls = RX0 ∧ yX0_step.cls ≠ "java/lang/invoke/MethodHandle" ∧ yX0_step.cls ≠ "java/lang/invoke/VarHandle" ∧ (parseMethodDescriptor yX0_step.desc).map (fun d => d.parameters.length) = some 1 := by decide +kernel
set_option maxHeartbeats 4000000 in
set_option maxRecDepth 100000 in
theorem c_X0_step (l : Launch) (dC : Nat → ClassId) (dI : Nat → Nat → Nat) (cI cZ : ClassId) (h : Nat) (a : Nat → Nat) (qph : AR) (qgr : AR) (qne : AR) (qap : AR) (qle : AR) (qfu : AR) (qpc : Int32) (qgd : Int32) (qri : Int32) (qnw : Int32) (qtk : Int32) (qsv : Int32) (qwa : AR) (qgi : AR) (qlo : AR) (qtu : AR) (n : Nat) (i : Int32) (hpc : qpc = nI n) (hn : n ≤ 8) (hok : X0_step_T n i = 0) : Ki l yX0_step wsX0_step rmX0_step dC dI cI cZ [.ref h, .int i] (xW cI cZ h a qph qgr qne qap qle qfu qpc qgd qri qnw qtk qsv qwa qgi qlo qtu) (xW cI cZ h a qph qgr ((X0_step qph qgr qne qap qle qfu qgd qri qnw qtk qwa qgi qlo qtu n i).2.1) qap qle qfu qpc qgd qri ((X0_step qph qgr qne qap qle qfu qgd qri qnw qtk qwa qgi qlo qtu n i).2.2.1) ((X0_step qph qgr qne qap qle qfu qgd qri qnw qtk qwa qgi qlo qtu n i).2.2.2.1) qsv ((X0_step qph qgr qne qap qle qfu qgd qri qnw qtk qwa qgi qlo qtu n i).2.2.2.2.1) ((X0_step qph qgr qne qap qle qfu qgd qri qnw qtk qwa qgi qlo qtu n i).2.2.2.2.2.1) ((X0_step qph qgr qne qap qle qfu qgd qri qnw qtk qwa qgi qlo qtu n i).2.2.2.2.2.2.1) ((X0_step qph qgr qne qap qle qfu qgd qri qnw qtk qwa qgi qlo qtu n i).2.2.2.2.2.2.2)) (X0_step qph qgr qne qap qle qfu qgd qri qnw qtk qwa qgi qlo qtu n i).1 := by
  refine k_enter_i (cc := cX0_step) (maxL := 4) (ret := some .int) (by decide) rfl (Nat.le_of_ble_eq_true rfl) ?_
  intro p e s m below meth c A ls hC hr hlocks hK hP hD hS hA hl
  generalize List.toArray _ = args at hC ⊢
  obtain ⟨hx, hb, hml, hown, hts⟩ := id hC
  have hret : ∀ (H : Heap) (locs : List Loc) (pc : Nat) (ls : Array Slot) (r : Int32), va_S A s.heap H locs → va_P (dC, dI) vwCl (xW cI cZ h a qph qgr ((X0_step qph qgr qne qap qle qfu qgd qri qnw qtk qwa qgi qlo qtu n i).2.1) qap qle qfu qpc qgd qri ((X0_step qph qgr qne qap qle qfu qgd qri qnw qtk qwa qgi qlo qtu n i).2.2.1) ((X0_step qph qgr qne qap qle qfu qgd qri qnw qtk qwa qgi qlo qtu n i).2.2.2.1) qsv ((X0_step qph qgr qne qap qle qfu qgd qri qnw qtk qwa qgi qlo qtu n i).2.2.2.2.1) ((X0_step qph qgr qne qap qle qfu qgd qri qnw qtk qwa qgi qlo qtu n i).2.2.2.2.2.1) ((X0_step qph qgr qne qap qle qfu qgd qri qnw qtk qwa qgi qlo qtu n i).2.2.2.2.2.2.1) ((X0_step qph qgr qne qap qle qfu qgd qri qnw qtk qwa qgi qlo qtu n i).2.2.2.2.2.2.2)) H → va_D A (xW cI cZ h a qph qgr ((X0_step qph qgr qne qap qle qfu qgd qri qnw qtk qwa qgi qlo qtu n i).2.1) qap qle qfu qpc qgd qri ((X0_step qph qgr qne qap qle qfu qgd qri qnw qtk qwa qgi qlo qtu n i).2.2.1) ((X0_step qph qgr qne qap qle qfu qgd qri qnw qtk qwa qgi qlo qtu n i).2.2.2.1) qsv ((X0_step qph qgr qne qap qle qfu qgd qri qnw qtk qwa qgi qlo qtu n i).2.2.2.2.1) ((X0_step qph qgr qne qap qle qfu qgd qri qnw qtk qwa qgi qlo qtu n i).2.2.2.2.2.1) ((X0_step qph qgr qne qap qle qfu qgd qri qnw qtk qwa qgi qlo qtu n i).2.2.2.2.2.2.1) ((X0_step qph qgr qne qap qle qfu qgd qri qnw qtk qwa qgi qlo qtu n i).2.2.2.2.2.2.2)) → r = (X0_step qph qgr qne qap qle qfu qgd qri qnw qtk qwa qgi qlo qtu n i).1 → decode cX0_step pc = .ok (.ireturn, 1) → W p l e rmX0_step s m args below meth c H locs 0 0 (MQ below (va_Qi (fun r (_ : Unit) => r = (X0_step qph qgr qne qap qle qfu qgd qri qnw qtk qwa qgi qlo qtu n i).1) (kBeh dC dI A (xW cI cZ h a qph qgr ((X0_step qph qgr qne qap qle qfu qgd qri qnw qtk qwa qgi qlo qtu n i).2.1) qap qle qfu qpc qgd qri ((X0_step qph qgr qne qap qle qfu qgd qri qnw qtk qwa qgi qlo qtu n i).2.2.1) ((X0_step qph qgr qne qap qle qfu qgd qri qnw qtk qwa qgi qlo qtu n i).2.2.2.1) qsv ((X0_step qph qgr qne qap qle qfu qgd qri qnw qtk qwa qgi qlo qtu n i).2.2.2.2.1) ((X0_step qph qgr qne qap qle qfu qgd qri qnw qtk qwa qgi qlo qtu n i).2.2.2.2.2.1) ((X0_step qph qgr qne qap qle qfu qgd qri qnw qtk qwa qgi qlo qtu n i).2.2.2.2.2.2.1) ((X0_step qph qgr qne qap qle qfu qgd qri qnw qtk qwa qgi qlo qtu n i).2.2.2.2.2.2.2))) A) args s 0 0 A) (F0 m pc ls [.int r]) := fun H locs pc ls r hS hP hD hv d => k_iret hx hb hr hlocks hS hP hD hv d
  generalize MQ below _ _ _ _ _ _ = Q at hret ⊢
  have hin : ∀ w ∈ wsX00, w ∈ wsX0_step := by decide +kernel
  have hw0 := hts (.fieldLink RX0 96 "ChargePark" "takenUnits" "I") (by decide +kernel)
  have hw1 := hts (.fieldLink RX0 74 "ChargePark" "now" "I") (by decide +kernel)
  have hl : lv_has ls 4 [(0, .ref h), (1, .int i)] := hl
  have hP : va_P (dC, dI) vwCl (xW cI cZ h a qph qgr qne qap qle qfu qpc qgd qri qnw qtk qsv qwa qgi qlo qtu) s.heap := hP
  have hW : ∀ (H : Heap) (locs : List Loc), va_P (dC, dI) vwCl (xW cI cZ h a qph qgr qne qap qle qfu qpc qgd qri qnw qtk qsv qwa qgi qlo qtu) H → va_D A (xW cI cZ h a qph qgr qne qap qle qfu qpc qgd qri qnw qtk qsv qwa qgi qlo qtu) → va_S A s.heap H locs → W p l e rmX0_step s m args below meth c H locs 0 0 Q (F0 m 0 ls []) := by
    intro H locs hP hD hS
    refine lv_iload_n hx hb dX0_step_0 rfl (lv_at hl 1 rfl) ?_
    refine lv_iconst (v := 1) hx hb dX0_step_1 (by decide) ?_
    refine lv_bipush (v := 50) hx hb dX0_step_2 (by decide) ?_
    by_cases c4 : (X0_requireWithin_T i 1 50) = 0
    · refine k_callsv (rest := []) (As := [.int i, .int 1, .int 50]) hC (c_X0_requireWithin l dC dI cI cZ (xW cI cZ h a qph qgr qne qap qle qfu qpc qgd qri qnw qtk qsv qwa qgi qlo qtu) i 1 50 c4) (va_cwS 3 hts gX0_step_X0_requireWithin rfl rfl rfl hd_X0_requireWithin ⟨Nat.le_of_ble_eq_true rfl, Nat.le_of_ble_eq_true rfl⟩) hK hP hD hS hA rfl hl.1 (Nat.le_of_ble_eq_true rfl) dX0_step_4 rfl ⟨Nat.zero_le _, Nat.zero_le _⟩ (fun H locs hP hD hS => ?_)
      refine lv_aload_n hx hb dX0_step_7 rfl (lv_at hl 0 rfl) ?_
      refine va_get (D := (dC, dI)) (ci := 0) (v := .int qtk) (C := RX0) (T := TX0) (N := 16) hx hb hts hin hown hK hP 0 rfl rfl 10 (by decide) hw0 (fun _ h9 => h9) rfl dX0_step_8 ?_
      refine lv_istore_n (lv' := [(2, .int qtk), (0, .ref h), (1, .int i)]) hx hb dX0_step_11 rfl hl (by decide) rfl (fun ls hl => ?_)
      refine lv_iconst (v := 0) hx hb dX0_step_12 (by decide) ?_
      refine lv_istore_n (lv' := [(3, .int 0), (2, .int qtk), (0, .ref h), (1, .int i)]) hx hb dX0_step_13 rfl hl (by decide) rfl (fun ls hl => ?_)
      have cont14 : ∀ (z1 : AR), z1 = (X0_step_L14 qph qgr qap qle qfu qgd qri n i  i.toNatClampNeg 0 qne qnw qtk qwa qgi qlo qtu).1 → ∀ (z2 : Int32), z2 = (X0_step_L14 qph qgr qap qle qfu qgd qri n i  i.toNatClampNeg 0 qne qnw qtk qwa qgi qlo qtu).2.1 → ∀ (z3 : Int32), z3 = (X0_step_L14 qph qgr qap qle qfu qgd qri n i  i.toNatClampNeg 0 qne qnw qtk qwa qgi qlo qtu).2.2.1 → ∀ (z4 : AR), z4 = (X0_step_L14 qph qgr qap qle qfu qgd qri n i  i.toNatClampNeg 0 qne qnw qtk qwa qgi qlo qtu).2.2.2.1 → ∀ (z5 : AR), z5 = (X0_step_L14 qph qgr qap qle qfu qgd qri n i  i.toNatClampNeg 0 qne qnw qtk qwa qgi qlo qtu).2.2.2.2.1 → ∀ (z6 : AR), z6 = (X0_step_L14 qph qgr qap qle qfu qgd qri n i  i.toNatClampNeg 0 qne qnw qtk qwa qgi qlo qtu).2.2.2.2.2.1 → ∀ (z7 : AR), z7 = (X0_step_L14 qph qgr qap qle qfu qgd qri n i  i.toNatClampNeg 0 qne qnw qtk qwa qgi qlo qtu).2.2.2.2.2.2 → ∀ (H : Heap) (locs : List Loc) (ls : Array Slot), va_P (dC, dI) vwCl (xW cI cZ h a qph qgr z1 qap qle qfu qpc qgd qri z2 z3 qsv z4 z5 z6 z7) H → va_D A (xW cI cZ h a qph qgr z1 qap qle qfu qpc qgd qri z2 z3 qsv z4 z5 z6 z7) → va_S A s.heap H locs → lv_has ls 4 [(2, .int qtk), (0, .ref h), (1, .int i)] → W p l e rmX0_step s m args below meth c H locs 0 0 Q (F0 m 43 ls []) := by
        intro z1 hz1 z2 hz2 z3 hz3 z4 hz4 z5 hz5 z6 hz6 z7 hz7 H locs ls hP hD hS hl
        refine lv_aload_n hx hb dX0_step_43 rfl (lv_at hl 1 rfl) ?_
        refine va_get (D := (dC, dI)) (ci := 0) (v := .int z3) (C := RX0) (T := TX0) (N := 16) hx hb hts hin hown hK hP 0 rfl rfl 10 (by decide) hw0 (fun _ h9 => h9) rfl dX0_step_44 ?_
        refine lv_iload_n hx hb dX0_step_47 rfl (lv_at hl 0 rfl) ?_
        refine lv_isub hx hb dX0_step_48 ?_
        have hP9 := hP; have hD9 := hD
        subst hz1 hz2 hz3 hz4 hz5 hz6 hz7
        have hP8 : va_P (dC, dI) vwCl (xW cI cZ h a qph qgr ((X0_step qph qgr qne qap qle qfu qgd qri qnw qtk qwa qgi qlo qtu n i).2.1) qap qle qfu qpc qgd qri ((X0_step qph qgr qne qap qle qfu qgd qri qnw qtk qwa qgi qlo qtu n i).2.2.1) ((X0_step qph qgr qne qap qle qfu qgd qri qnw qtk qwa qgi qlo qtu n i).2.2.2.1) qsv ((X0_step qph qgr qne qap qle qfu qgd qri qnw qtk qwa qgi qlo qtu n i).2.2.2.2.1) ((X0_step qph qgr qne qap qle qfu qgd qri qnw qtk qwa qgi qlo qtu n i).2.2.2.2.2.1) ((X0_step qph qgr qne qap qle qfu qgd qri qnw qtk qwa qgi qlo qtu n i).2.2.2.2.2.2.1) ((X0_step qph qgr qne qap qle qfu qgd qri qnw qtk qwa qgi qlo qtu n i).2.2.2.2.2.2.2)) H := by rw [X0_step, if_pos c4]; exact hP9
        have hD8 : va_D A (xW cI cZ h a qph qgr ((X0_step qph qgr qne qap qle qfu qgd qri qnw qtk qwa qgi qlo qtu n i).2.1) qap qle qfu qpc qgd qri ((X0_step qph qgr qne qap qle qfu qgd qri qnw qtk qwa qgi qlo qtu n i).2.2.1) ((X0_step qph qgr qne qap qle qfu qgd qri qnw qtk qwa qgi qlo qtu n i).2.2.2.1) qsv ((X0_step qph qgr qne qap qle qfu qgd qri qnw qtk qwa qgi qlo qtu n i).2.2.2.2.1) ((X0_step qph qgr qne qap qle qfu qgd qri qnw qtk qwa qgi qlo qtu n i).2.2.2.2.2.1) ((X0_step qph qgr qne qap qle qfu qgd qri qnw qtk qwa qgi qlo qtu n i).2.2.2.2.2.2.1) ((X0_step qph qgr qne qap qle qfu qgd qri qnw qtk qwa qgi qlo qtu n i).2.2.2.2.2.2.2)) := by rw [X0_step, if_pos c4]; exact hD9
        exact hret H locs 49 ls (((X0_step_L14 qph qgr qap qle qfu qgd qri n i  i.toNatClampNeg 0 qne qnw qtk qwa qgi qlo qtu).2.2.1) - qtk) hS hP8 hD8 (by rw [X0_step, if_pos c4]) dX0_step_49
      obtain ⟨hie, hi50⟩ := rqw_50 c4
      have loop14 : ∀ (j k : Nat) (vne : AR) (vnw : Int32) (vtk : Int32) (vwa : AR) (vgi : AR) (vlo : AR) (vtu : AR), k + j = i.toNatClampNeg → X0_step_L14 qph qgr qap qle qfu qgd qri n i  j k vne vnw vtk vwa vgi vlo vtu = (X0_step_L14 qph qgr qap qle qfu qgd qri n i  i.toNatClampNeg 0 qne qnw qtk qwa qgi qlo qtu) → ∀ (H : Heap) (locs : List Loc) (ls : Array Slot), va_P (dC, dI) vwCl (xW cI cZ h a qph qgr vne qap qle qfu qpc qgd qri vnw vtk qsv vwa vgi vlo vtu) H → va_D A (xW cI cZ h a qph qgr vne qap qle qfu qpc qgd qri vnw vtk qsv vwa vgi vlo vtu) → va_S A s.heap H locs → lv_has ls 4 [(0, .ref h), (1, .int i), (2, .int qtk), (3, .int (nI k))] → W p l e rmX0_step s m args below meth c H locs 0 0 Q (F0 m 14 ls []) := by
        intro j
        induction j with
        | zero =>
          intro k vne vnw vtk vwa vgi vlo vtu hk hR  H locs ls hP hD hS hl
          refine lv_iload_n hx hb dX0_step_14 rfl (lv_at hl 3 rfl) ?_
          refine lv_iload_n hx hb dX0_step_15 rfl (lv_at hl 1 rfl) ?_
          refine lv_icmp_ge (tgt := 43) hx hb dX0_step_16 (by decide) (fun _ => ?_) (fun c => absurd (by rw [hie]; exact nI_le (by omega) (by omega)) c)
          exact cont14 vne (by rw [← hR, X0_step_L14]) vnw (by rw [← hR, X0_step_L14]) vtk (by rw [← hR, X0_step_L14]) vwa (by rw [← hR, X0_step_L14]) vgi (by rw [← hR, X0_step_L14]) vlo (by rw [← hR, X0_step_L14]) vtu (by rw [← hR, X0_step_L14]) H locs ls hP hD hS (lv_sub hl [2, 0, 1] rfl)
        | succ j ih =>
          intro k vne vnw vtk vwa vgi vlo vtu hk hR  H locs ls hP hD hS hl
          refine lv_iload_n hx hb dX0_step_14 rfl (lv_at hl 3 rfl) ?_
          refine lv_iload_n hx hb dX0_step_15 rfl (lv_at hl 1 rfl) ?_
          refine lv_icmp_ge (tgt := 43) hx hb dX0_step_16 (by decide) (fun c => absurd c (by rw [hie]; exact nI_ge (by omega) (by omega))) (fun _ => ?_)
          refine lv_aload_n hx hb dX0_step_19 rfl (lv_at hl 0 rfl) ?_
          refine k_callv (rest := []) (q0 := 0) hC (c_X0_shareCurrents l dC dI cI cZ h a qph qgr vne qap qle qfu qpc qgd qri vnw vtk qsv vwa vgi vlo vtu n  hpc hn) (cwV 0 hts gX0_step_X0_shareCurrents rfl rfl rfl hd_X0_shareCurrents ⟨Nat.le_of_ble_eq_true rfl, Nat.le_of_ble_eq_true rfl⟩) hK hP hD hS hA rfl rfl rfl hl.1 (Nat.le_of_ble_eq_true rfl) dX0_step_20 rfl ⟨Nat.zero_le _, Nat.zero_le _⟩ (fun H locs hP hD hS => ?_)
          obtain ⟨z8, hz8⟩ : ∃ z : AR, z = ((X0_shareCurrents qph qgr vne qap qle qfu qgd qri vnw vwa vgi vlo vtu n).1) := ⟨_, rfl⟩
          rw [← hz8] at hP hD
          obtain ⟨z9, hz9⟩ : ∃ z : AR, z = ((X0_shareCurrents qph qgr vne qap qle qfu qgd qri vnw vwa vgi vlo vtu n).2.1) := ⟨_, rfl⟩
          rw [← hz9] at hP hD
          obtain ⟨z10, hz10⟩ : ∃ z : AR, z = ((X0_shareCurrents qph qgr vne qap qle qfu qgd qri vnw vwa vgi vlo vtu n).2.2.1) := ⟨_, rfl⟩
          rw [← hz10] at hP hD
          obtain ⟨z11, hz11⟩ : ∃ z : AR, z = ((X0_shareCurrents qph qgr vne qap qle qfu qgd qri vnw vwa vgi vlo vtu n).2.2.2) := ⟨_, rfl⟩
          rw [← hz11] at hP hD
          have hP : va_P (dC, dI) vwCl (xW cI cZ h a qph qgr vne qap qle qfu qpc qgd qri vnw vtk qsv z8 z9 z10 z11) H := hP
          have hD : va_D A (xW cI cZ h a qph qgr vne qap qle qfu qpc qgd qri vnw vtk qsv z8 z9 z10 z11) := hD
          refine lv_aload_n hx hb dX0_step_23 rfl (lv_at hl 0 rfl) ?_
          refine k_callv (rest := []) (q0 := 0) hC (c_X0_takeWhatIsGiven l dC dI cI cZ h a qph qgr vne qap qle qfu qpc qgd qri vnw vtk qsv z8 z9 z10 z11 n  hpc hn) (cwV 0 hts gX0_step_X0_takeWhatIsGiven rfl rfl rfl hd_X0_takeWhatIsGiven ⟨Nat.le_of_ble_eq_true rfl, Nat.le_of_ble_eq_true rfl⟩) hK hP hD hS hA rfl rfl rfl hl.1 (Nat.le_of_ble_eq_true rfl) dX0_step_24 rfl ⟨Nat.zero_le _, Nat.zero_le _⟩ (fun H locs hP hD hS => ?_)
          obtain ⟨z12, hz12⟩ : ∃ z : AR, z = ((X0_takeWhatIsGiven qph vne vtk z9 n).1) := ⟨_, rfl⟩
          rw [← hz12] at hP hD
          obtain ⟨z13, hz13⟩ : ∃ z : Int32, z = ((X0_takeWhatIsGiven qph vne vtk z9 n).2) := ⟨_, rfl⟩
          rw [← hz13] at hP hD
          have hP : va_P (dC, dI) vwCl (xW cI cZ h a qph qgr z12 qap qle qfu qpc qgd qri vnw z13 qsv z8 z9 z10 z11) H := hP
          have hD : va_D A (xW cI cZ h a qph qgr z12 qap qle qfu qpc qgd qri vnw z13 qsv z8 z9 z10 z11) := hD
          refine lv_aload_n hx hb dX0_step_27 rfl (lv_at hl 0 rfl) ?_
          refine lv_dup hx hb dX0_step_28 rfl ?_
          refine va_get (D := (dC, dI)) (ci := 0) (v := .int vnw) (C := RX0) (T := TX0) (N := 16) hx hb hts hin hown hK hP 0 rfl rfl 9 (by decide) hw1 (fun _ h9 => h9) rfl dX0_step_29 ?_
          refine lv_iconst (v := 1) hx hb dX0_step_32 (by decide) ?_
          refine lv_iadd hx hb dX0_step_33 ?_
          refine va_put (D := (dC, dI)) (ci := 0) (v := .int (vnw + 1)) (ty := .int) (C := RX0) (T := TX0) (N := 16) hx hb hts hin tyX0 tyX0_ok nmX0 hown hK hP hD hS 0 rfl rfl 9 (by decide) hw1 (fun _ h9 => h9) rfl xfd9 rfl rfl (Nat.le_of_ble_eq_true rfl) dX0_step_34 (fun H locs hP hD hS => ?_)
          obtain ⟨z14, hz14⟩ : ∃ z : Int32, z = (vnw + 1) := ⟨_, rfl⟩
          rw [← hz14] at hP hD
          have hP : va_P (dC, dI) vwCl (xW cI cZ h a qph qgr z12 qap qle qfu qpc qgd qri z14 z13 qsv z8 z9 z10 z11) H := hP
          have hD : va_D A (xW cI cZ h a qph qgr z12 qap qle qfu qpc qgd qri z14 z13 qsv z8 z9 z10 z11) := hD
          refine lv_iinc (v := (nI (k + 1))) (lv' := [(3, .int (nI (k + 1))), (0, .ref h), (1, .int i), (2, .int qtk)]) hx hb dX0_step_37 hl (k := 3) rfl (nI_1 k) (by decide) rfl (fun ls hl => ?_)
          refine lv_goto (tgt := 14) hx hb dX0_step_40 (by decide) ?_
          have hP9 := hP; have hD9 := hD; have hl9 := hl; have hR9 := hR; have ih9 := ih
          subst hz8 hz9 hz10 hz11 hz12 hz13 hz14
          exact ih9 (k + 1) ((X0_takeWhatIsGiven qph vne vtk ((X0_shareCurrents qph qgr vne qap qle qfu qgd qri vnw vwa vgi vlo vtu n).2.1) n).1) (vnw + 1) ((X0_takeWhatIsGiven qph vne vtk ((X0_shareCurrents qph qgr vne qap qle qfu qgd qri vnw vwa vgi vlo vtu n).2.1) n).2) ((X0_shareCurrents qph qgr vne qap qle qfu qgd qri vnw vwa vgi vlo vtu n).1) ((X0_shareCurrents qph qgr vne qap qle qfu qgd qri vnw vwa vgi vlo vtu n).2.1) ((X0_shareCurrents qph qgr vne qap qle qfu qgd qri vnw vwa vgi vlo vtu n).2.2.1) ((X0_shareCurrents qph qgr vne qap qle qfu qgd qri vnw vwa vgi vlo vtu n).2.2.2) (by omega) (by rw [← hR9, X0_step_L14])  H locs ls hP9 hD9 hS (lv_sub hl9 [1, 2, 3, 0] rfl)
      exact loop14 i.toNatClampNeg 0 qne qnw qtk qwa qgi qlo qtu (by omega) rfl  H locs ls hP hD hS (lv_sub hl [2, 3, 1, 0] rfl)
    · rw [X0_step_T, if_neg c4] at hok
      exact absurd hok (by decide)
  exact hW _ _ hP hD hS
abbrev rmxX0_step : Room := { frames := 7, cells := 1, slots := 6, locals := 104 }
set_option maxHeartbeats 4000000 in
set_option maxRecDepth 100000 in
theorem cx_X0_step (l : Launch) (hl0 : l.stackTraces = false) (dC : Nat → ClassId) (dI : Nat → Nat → Nat) (cI cZ : ClassId) (h : Nat) (a : Nat → Nat) (qph : AR) (qgr : AR) (qne : AR) (qap : AR) (qle : AR) (qfu : AR) (qpc : Int32) (qgd : Int32) (qri : Int32) (qnw : Int32) (qtk : Int32) (qsv : Int32) (qwa : AR) (qgi : AR) (qlo : AR) (qtu : AR) (n : Nat) (i : Int32) (hpc : qpc = nI n) (hn : n ≤ 8) (hbad : ¬ X0_step_T n i = 0) : Kx l yX0_step wsX0_step rmxX0_step dC dI cI cZ [.ref h, .int i] (xW cI cZ h a qph qgr qne qap qle qfu qpc qgd qri qnw qtk qsv qwa qgi qlo qtu) (fun E => (X0_step_T n i = 1 ∧ E = nIA)) := by
  refine k_enter_x (cc := cX0_step) (maxL := 4) (ret := some .int) (by decide) rfl (Nat.le_of_ble_eq_true rfl) ?_
  intro p e s m below meth c A ls hC hlocks htab hK hNs hZ hP hD hS hA hl
  generalize List.toArray _ = args at hC ⊢
  obtain ⟨hx, hb, hml, hown, hts⟩ := id hC
  have hl : lv_has ls 4 [(0, .ref h), (1, .int i)] := hl
  have hP : va_P (dC, dI) vwCl (xW cI cZ h a qph qgr qne qap qle qfu qpc qgd qri qnw qtk qsv qwa qgi qlo qtu) s.heap := hP
  refine lv_iload_n hx hb dX0_step_0 rfl (lv_at hl 1 rfl) ?_
  refine lv_iconst (v := 1) hx hb dX0_step_1 (by decide) ?_
  refine lv_bipush (v := 50) hx hb dX0_step_2 (by decide) ?_
  by_cases c4 : (X0_requireWithin_T i 1 50) = 0
  · refine k_callsv (rest := []) (As := [.int i, .int 1, .int 50]) hC (c_X0_requireWithin l dC dI cI cZ (xW cI cZ h a qph qgr qne qap qle qfu qpc qgd qri qnw qtk qsv qwa qgi qlo qtu) i 1 50 c4) (va_cwS 3 hts gX0_step_X0_requireWithin rfl rfl rfl hd_X0_requireWithin ⟨Nat.le_of_ble_eq_true rfl, Nat.le_of_ble_eq_true rfl⟩) hK hP hD hS hA rfl hl.1 (Nat.le_of_ble_eq_true rfl) dX0_step_4 rfl ⟨Nat.zero_le _, Nat.zero_le _⟩ (fun H locs hP hD hS => ?_)
    exact absurd (by rw [X0_step_T, if_pos c4]) hbad
  · refine kx_callS (rest := []) (As := [.int i, .int 1, .int 50]) hC (cx_X0_requireWithin l hl0 dC dI cI cZ (xW cI cZ h a qph qgr qne qap qle qfu qpc qgd qri qnw qtk qsv qwa qgi qlo qtu) i 1 50 c4) (va_cwS 3 hts gX0_step_X0_requireWithin rfl rfl rfl hd_X0_requireWithin ⟨Nat.le_of_ble_eq_true rfl, Nat.le_of_ble_eq_true rfl⟩) hK hNs hZ hP hD hS hA rfl hl.1 (Nat.le_of_ble_eq_true rfl) dX0_step_4 rfl ⟨Nat.le_of_ble_eq_true rfl, Nat.le_of_ble_eq_true rfl⟩ (fun E ce q H locs hex hP hD hS hcell hv hcl => ?_)
    exact kx_out htab hlocks hcell hv hcl hS hP hD (⟨by rw [X0_step_T, if_neg c4], hex.2⟩) (Nat.le_of_ble_eq_true rfl) (Nat.le_of_ble_eq_true rfl)
def X0_time (qnw : Int32)  : Int32 := qnw
abbrev rmX0_time : Room := { frames := 0, cells := 0, slots := 0, locals := 0 }
theorem hd_X0_time : yX0_time.cls = RX0 ∧ yX0_time.cls ≠ "java/lang/invoke/MethodHandle" ∧ yX0_time.cls ≠ "java/lang/invoke/VarHandle" ∧ (parseMethodDescriptor yX0_time.desc).map (fun d => d.parameters.length) = some 0 := by decide +kernel
set_option maxHeartbeats 4000000 in
set_option maxRecDepth 100000 in
theorem c_X0_time (l : Launch) (dC : Nat → ClassId) (dI : Nat → Nat → Nat) (cI cZ : ClassId) (h : Nat) (a : Nat → Nat) (qph : AR) (qgr : AR) (qne : AR) (qap : AR) (qle : AR) (qfu : AR) (qpc : Int32) (qgd : Int32) (qri : Int32) (qnw : Int32) (qtk : Int32) (qsv : Int32) (qwa : AR) (qgi : AR) (qlo : AR) (qtu : AR) : Ki l yX0_time wsX0_time rmX0_time dC dI cI cZ [.ref h] (xW cI cZ h a qph qgr qne qap qle qfu qpc qgd qri qnw qtk qsv qwa qgi qlo qtu) (xW cI cZ h a qph qgr qne qap qle qfu qpc qgd qri qnw qtk qsv qwa qgi qlo qtu) (X0_time qnw) := by
  refine k_enter_i (cc := cX0_time) (maxL := 1) (ret := some .int) (by decide) rfl (Nat.le_of_ble_eq_true rfl) ?_
  intro p e s m below meth c A ls hC hr hlocks hK hP hD hS hA hl
  generalize List.toArray _ = args at hC ⊢
  obtain ⟨hx, hb, hml, hown, hts⟩ := id hC
  have hret : ∀ (H : Heap) (locs : List Loc) (pc : Nat) (ls : Array Slot) (r : Int32), va_S A s.heap H locs → va_P (dC, dI) vwCl (xW cI cZ h a qph qgr qne qap qle qfu qpc qgd qri qnw qtk qsv qwa qgi qlo qtu) H → va_D A (xW cI cZ h a qph qgr qne qap qle qfu qpc qgd qri qnw qtk qsv qwa qgi qlo qtu) → r = (X0_time qnw) → decode cX0_time pc = .ok (.ireturn, 1) → W p l e rmX0_time s m args below meth c H locs 0 0 (MQ below (va_Qi (fun r (_ : Unit) => r = (X0_time qnw)) (kBeh dC dI A (xW cI cZ h a qph qgr qne qap qle qfu qpc qgd qri qnw qtk qsv qwa qgi qlo qtu)) A) args s 0 0 A) (F0 m pc ls [.int r]) := fun H locs pc ls r hS hP hD hv d => k_iret hx hb hr hlocks hS hP hD hv d
  generalize MQ below _ _ _ _ _ _ = Q at hret ⊢
  have hin : ∀ w ∈ wsX00, w ∈ wsX0_time := by decide +kernel
  have hw0 := hts (.fieldLink RX0 74 "ChargePark" "now" "I") (by decide +kernel)
  have hl : lv_has ls 1 [(0, .ref h)] := hl
  have hP : va_P (dC, dI) vwCl (xW cI cZ h a qph qgr qne qap qle qfu qpc qgd qri qnw qtk qsv qwa qgi qlo qtu) s.heap := hP
  have hW : ∀ (H : Heap) (locs : List Loc), va_P (dC, dI) vwCl (xW cI cZ h a qph qgr qne qap qle qfu qpc qgd qri qnw qtk qsv qwa qgi qlo qtu) H → va_D A (xW cI cZ h a qph qgr qne qap qle qfu qpc qgd qri qnw qtk qsv qwa qgi qlo qtu) → va_S A s.heap H locs → W p l e rmX0_time s m args below meth c H locs 0 0 Q (F0 m 0 ls []) := by
    intro H locs hP hD hS
    refine lv_aload_n hx hb dX0_time_0 rfl (lv_at hl 0 rfl) ?_
    refine va_get (D := (dC, dI)) (ci := 0) (v := .int qnw) (C := RX0) (T := TX0) (N := 16) hx hb hts hin hown hK hP 0 rfl rfl 9 (by decide) hw0 (fun _ h9 => h9) rfl dX0_time_1 ?_
    exact hret H locs 4 ls qnw hS hP hD (by rw [X0_time]) dX0_time_4
  exact hW _ _ hP hD hS
def X0_points (qpc : Int32)  : Int32 := qpc
abbrev rmX0_points : Room := { frames := 0, cells := 0, slots := 0, locals := 0 }
theorem hd_X0_points : yX0_points.cls = RX0 ∧ yX0_points.cls ≠ "java/lang/invoke/MethodHandle" ∧ yX0_points.cls ≠ "java/lang/invoke/VarHandle" ∧ (parseMethodDescriptor yX0_points.desc).map (fun d => d.parameters.length) = some 0 := by decide +kernel
set_option maxHeartbeats 4000000 in
set_option maxRecDepth 100000 in
theorem c_X0_points (l : Launch) (dC : Nat → ClassId) (dI : Nat → Nat → Nat) (cI cZ : ClassId) (h : Nat) (a : Nat → Nat) (qph : AR) (qgr : AR) (qne : AR) (qap : AR) (qle : AR) (qfu : AR) (qpc : Int32) (qgd : Int32) (qri : Int32) (qnw : Int32) (qtk : Int32) (qsv : Int32) (qwa : AR) (qgi : AR) (qlo : AR) (qtu : AR) : Ki l yX0_points wsX0_points rmX0_points dC dI cI cZ [.ref h] (xW cI cZ h a qph qgr qne qap qle qfu qpc qgd qri qnw qtk qsv qwa qgi qlo qtu) (xW cI cZ h a qph qgr qne qap qle qfu qpc qgd qri qnw qtk qsv qwa qgi qlo qtu) (X0_points qpc) := by
  refine k_enter_i (cc := cX0_points) (maxL := 1) (ret := some .int) (by decide) rfl (Nat.le_of_ble_eq_true rfl) ?_
  intro p e s m below meth c A ls hC hr hlocks hK hP hD hS hA hl
  generalize List.toArray _ = args at hC ⊢
  obtain ⟨hx, hb, hml, hown, hts⟩ := id hC
  have hret : ∀ (H : Heap) (locs : List Loc) (pc : Nat) (ls : Array Slot) (r : Int32), va_S A s.heap H locs → va_P (dC, dI) vwCl (xW cI cZ h a qph qgr qne qap qle qfu qpc qgd qri qnw qtk qsv qwa qgi qlo qtu) H → va_D A (xW cI cZ h a qph qgr qne qap qle qfu qpc qgd qri qnw qtk qsv qwa qgi qlo qtu) → r = (X0_points qpc) → decode cX0_points pc = .ok (.ireturn, 1) → W p l e rmX0_points s m args below meth c H locs 0 0 (MQ below (va_Qi (fun r (_ : Unit) => r = (X0_points qpc)) (kBeh dC dI A (xW cI cZ h a qph qgr qne qap qle qfu qpc qgd qri qnw qtk qsv qwa qgi qlo qtu)) A) args s 0 0 A) (F0 m pc ls [.int r]) := fun H locs pc ls r hS hP hD hv d => k_iret hx hb hr hlocks hS hP hD hv d
  generalize MQ below _ _ _ _ _ _ = Q at hret ⊢
  have hin : ∀ w ∈ wsX00, w ∈ wsX0_points := by decide +kernel
  have hw0 := hts (.fieldLink RX0 55 "ChargePark" "pointCount" "I") (by decide +kernel)
  have hl : lv_has ls 1 [(0, .ref h)] := hl
  have hP : va_P (dC, dI) vwCl (xW cI cZ h a qph qgr qne qap qle qfu qpc qgd qri qnw qtk qsv qwa qgi qlo qtu) s.heap := hP
  have hW : ∀ (H : Heap) (locs : List Loc), va_P (dC, dI) vwCl (xW cI cZ h a qph qgr qne qap qle qfu qpc qgd qri qnw qtk qsv qwa qgi qlo qtu) H → va_D A (xW cI cZ h a qph qgr qne qap qle qfu qpc qgd qri qnw qtk qsv qwa qgi qlo qtu) → va_S A s.heap H locs → W p l e rmX0_points s m args below meth c H locs 0 0 Q (F0 m 0 ls []) := by
    intro H locs hP hD hS
    refine lv_aload_n hx hb dX0_points_0 rfl (lv_at hl 0 rfl) ?_
    refine va_get (D := (dC, dI)) (ci := 0) (v := .int qpc) (C := RX0) (T := TX0) (N := 16) hx hb hts hin hown hK hP 0 rfl rfl 6 (by decide) hw0 (fun _ h9 => h9) rfl dX0_points_1 ?_
    exact hret H locs 4 ls qpc hS hP hD (by rw [X0_points]) dX0_points_4
  exact hW _ _ hP hD hS
def X0_taken (qtk : Int32)  : Int32 := qtk
abbrev rmX0_taken : Room := { frames := 0, cells := 0, slots := 0, locals := 0 }
theorem hd_X0_taken : yX0_taken.cls = RX0 ∧ yX0_taken.cls ≠ "java/lang/invoke/MethodHandle" ∧ yX0_taken.cls ≠ "java/lang/invoke/VarHandle" ∧ (parseMethodDescriptor yX0_taken.desc).map (fun d => d.parameters.length) = some 0 := by decide +kernel
set_option maxHeartbeats 4000000 in
set_option maxRecDepth 100000 in
theorem c_X0_taken (l : Launch) (dC : Nat → ClassId) (dI : Nat → Nat → Nat) (cI cZ : ClassId) (h : Nat) (a : Nat → Nat) (qph : AR) (qgr : AR) (qne : AR) (qap : AR) (qle : AR) (qfu : AR) (qpc : Int32) (qgd : Int32) (qri : Int32) (qnw : Int32) (qtk : Int32) (qsv : Int32) (qwa : AR) (qgi : AR) (qlo : AR) (qtu : AR) : Ki l yX0_taken wsX0_taken rmX0_taken dC dI cI cZ [.ref h] (xW cI cZ h a qph qgr qne qap qle qfu qpc qgd qri qnw qtk qsv qwa qgi qlo qtu) (xW cI cZ h a qph qgr qne qap qle qfu qpc qgd qri qnw qtk qsv qwa qgi qlo qtu) (X0_taken qtk) := by
  refine k_enter_i (cc := cX0_taken) (maxL := 1) (ret := some .int) (by decide) rfl (Nat.le_of_ble_eq_true rfl) ?_
  intro p e s m below meth c A ls hC hr hlocks hK hP hD hS hA hl
  generalize List.toArray _ = args at hC ⊢
  obtain ⟨hx, hb, hml, hown, hts⟩ := id hC
  have hret : ∀ (H : Heap) (locs : List Loc) (pc : Nat) (ls : Array Slot) (r : Int32), va_S A s.heap H locs → va_P (dC, dI) vwCl (xW cI cZ h a qph qgr qne qap qle qfu qpc qgd qri qnw qtk qsv qwa qgi qlo qtu) H → va_D A (xW cI cZ h a qph qgr qne qap qle qfu qpc qgd qri qnw qtk qsv qwa qgi qlo qtu) → r = (X0_taken qtk) → decode cX0_taken pc = .ok (.ireturn, 1) → W p l e rmX0_taken s m args below meth c H locs 0 0 (MQ below (va_Qi (fun r (_ : Unit) => r = (X0_taken qtk)) (kBeh dC dI A (xW cI cZ h a qph qgr qne qap qle qfu qpc qgd qri qnw qtk qsv qwa qgi qlo qtu)) A) args s 0 0 A) (F0 m pc ls [.int r]) := fun H locs pc ls r hS hP hD hv d => k_iret hx hb hr hlocks hS hP hD hv d
  generalize MQ below _ _ _ _ _ _ = Q at hret ⊢
  have hin : ∀ w ∈ wsX00, w ∈ wsX0_taken := by decide +kernel
  have hw0 := hts (.fieldLink RX0 96 "ChargePark" "takenUnits" "I") (by decide +kernel)
  have hl : lv_has ls 1 [(0, .ref h)] := hl
  have hP : va_P (dC, dI) vwCl (xW cI cZ h a qph qgr qne qap qle qfu qpc qgd qri qnw qtk qsv qwa qgi qlo qtu) s.heap := hP
  have hW : ∀ (H : Heap) (locs : List Loc), va_P (dC, dI) vwCl (xW cI cZ h a qph qgr qne qap qle qfu qpc qgd qri qnw qtk qsv qwa qgi qlo qtu) H → va_D A (xW cI cZ h a qph qgr qne qap qle qfu qpc qgd qri qnw qtk qsv qwa qgi qlo qtu) → va_S A s.heap H locs → W p l e rmX0_taken s m args below meth c H locs 0 0 Q (F0 m 0 ls []) := by
    intro H locs hP hD hS
    refine lv_aload_n hx hb dX0_taken_0 rfl (lv_at hl 0 rfl) ?_
    refine va_get (D := (dC, dI)) (ci := 0) (v := .int qtk) (C := RX0) (T := TX0) (N := 16) hx hb hts hin hown hK hP 0 rfl rfl 10 (by decide) hw0 (fun _ h9 => h9) rfl dX0_taken_1 ?_
    exact hret H locs 4 ls qtk hS hP hD (by rw [X0_taken]) dX0_taken_4
  exact hW _ _ hP hD hS
def X0_served (qsv : Int32)  : Int32 := qsv
abbrev rmX0_served : Room := { frames := 0, cells := 0, slots := 0, locals := 0 }
theorem hd_X0_served : yX0_served.cls = RX0 ∧ yX0_served.cls ≠ "java/lang/invoke/MethodHandle" ∧ yX0_served.cls ≠ "java/lang/invoke/VarHandle" ∧ (parseMethodDescriptor yX0_served.desc).map (fun d => d.parameters.length) = some 0 := by decide +kernel
set_option maxHeartbeats 4000000 in
set_option maxRecDepth 100000 in
theorem c_X0_served (l : Launch) (dC : Nat → ClassId) (dI : Nat → Nat → Nat) (cI cZ : ClassId) (h : Nat) (a : Nat → Nat) (qph : AR) (qgr : AR) (qne : AR) (qap : AR) (qle : AR) (qfu : AR) (qpc : Int32) (qgd : Int32) (qri : Int32) (qnw : Int32) (qtk : Int32) (qsv : Int32) (qwa : AR) (qgi : AR) (qlo : AR) (qtu : AR) : Ki l yX0_served wsX0_served rmX0_served dC dI cI cZ [.ref h] (xW cI cZ h a qph qgr qne qap qle qfu qpc qgd qri qnw qtk qsv qwa qgi qlo qtu) (xW cI cZ h a qph qgr qne qap qle qfu qpc qgd qri qnw qtk qsv qwa qgi qlo qtu) (X0_served qsv) := by
  refine k_enter_i (cc := cX0_served) (maxL := 1) (ret := some .int) (by decide) rfl (Nat.le_of_ble_eq_true rfl) ?_
  intro p e s m below meth c A ls hC hr hlocks hK hP hD hS hA hl
  generalize List.toArray _ = args at hC ⊢
  obtain ⟨hx, hb, hml, hown, hts⟩ := id hC
  have hret : ∀ (H : Heap) (locs : List Loc) (pc : Nat) (ls : Array Slot) (r : Int32), va_S A s.heap H locs → va_P (dC, dI) vwCl (xW cI cZ h a qph qgr qne qap qle qfu qpc qgd qri qnw qtk qsv qwa qgi qlo qtu) H → va_D A (xW cI cZ h a qph qgr qne qap qle qfu qpc qgd qri qnw qtk qsv qwa qgi qlo qtu) → r = (X0_served qsv) → decode cX0_served pc = .ok (.ireturn, 1) → W p l e rmX0_served s m args below meth c H locs 0 0 (MQ below (va_Qi (fun r (_ : Unit) => r = (X0_served qsv)) (kBeh dC dI A (xW cI cZ h a qph qgr qne qap qle qfu qpc qgd qri qnw qtk qsv qwa qgi qlo qtu)) A) args s 0 0 A) (F0 m pc ls [.int r]) := fun H locs pc ls r hS hP hD hv d => k_iret hx hb hr hlocks hS hP hD hv d
  generalize MQ below _ _ _ _ _ _ = Q at hret ⊢
  have hin : ∀ w ∈ wsX00, w ∈ wsX0_served := by decide +kernel
  have hw0 := hts (.fieldLink RX0 84 "ChargePark" "servedCars" "I") (by decide +kernel)
  have hl : lv_has ls 1 [(0, .ref h)] := hl
  have hP : va_P (dC, dI) vwCl (xW cI cZ h a qph qgr qne qap qle qfu qpc qgd qri qnw qtk qsv qwa qgi qlo qtu) s.heap := hP
  have hW : ∀ (H : Heap) (locs : List Loc), va_P (dC, dI) vwCl (xW cI cZ h a qph qgr qne qap qle qfu qpc qgd qri qnw qtk qsv qwa qgi qlo qtu) H → va_D A (xW cI cZ h a qph qgr qne qap qle qfu qpc qgd qri qnw qtk qsv qwa qgi qlo qtu) → va_S A s.heap H locs → W p l e rmX0_served s m args below meth c H locs 0 0 Q (F0 m 0 ls []) := by
    intro H locs hP hD hS
    refine lv_aload_n hx hb dX0_served_0 rfl (lv_at hl 0 rfl) ?_
    refine va_get (D := (dC, dI)) (ci := 0) (v := .int qsv) (C := RX0) (T := TX0) (N := 16) hx hb hts hin hown hK hP 0 rfl rfl 11 (by decide) hw0 (fun _ h9 => h9) rfl dX0_served_1 ?_
    exact hret H locs 4 ls qsv hS hP hD (by rw [X0_served]) dX0_served_4
  exact hW _ _ hP hD hS
def X0_need_T (qpc : Int32) (n : Nat) (i : Int32) : Int32 := (if (X0_requirePoint_T qpc i) = 0 then 0 else 1)
def X0_need (qne : AR) (qpc : Int32) (n : Nat) (i : Int32) : Int32 := (if (X0_requirePoint_T qpc i) = 0 then (qne i.toNatClampNeg) else 0)
abbrev rmX0_need : Room := { frames := 1, cells := 0, slots := 0, locals := 21 }
theorem hd_X0_need : yX0_need.cls = RX0 ∧ yX0_need.cls ≠ "java/lang/invoke/MethodHandle" ∧ yX0_need.cls ≠ "java/lang/invoke/VarHandle" ∧ (parseMethodDescriptor yX0_need.desc).map (fun d => d.parameters.length) = some 1 := by decide +kernel
set_option maxHeartbeats 4000000 in
set_option maxRecDepth 100000 in
theorem c_X0_need (l : Launch) (dC : Nat → ClassId) (dI : Nat → Nat → Nat) (cI cZ : ClassId) (h : Nat) (a : Nat → Nat) (qph : AR) (qgr : AR) (qne : AR) (qap : AR) (qle : AR) (qfu : AR) (qpc : Int32) (qgd : Int32) (qri : Int32) (qnw : Int32) (qtk : Int32) (qsv : Int32) (qwa : AR) (qgi : AR) (qlo : AR) (qtu : AR) (n : Nat) (i : Int32) (hpc : qpc = nI n) (hn : n ≤ 8) (hok : X0_need_T qpc n i = 0) : Ki l yX0_need wsX0_need rmX0_need dC dI cI cZ [.ref h, .int i] (xW cI cZ h a qph qgr qne qap qle qfu qpc qgd qri qnw qtk qsv qwa qgi qlo qtu) (xW cI cZ h a qph qgr qne qap qle qfu qpc qgd qri qnw qtk qsv qwa qgi qlo qtu) (X0_need qne qpc n i) := by
  refine k_enter_i (cc := cX0_need) (maxL := 2) (ret := some .int) (by decide) rfl (Nat.le_of_ble_eq_true rfl) ?_
  intro p e s m below meth c A ls hC hr hlocks hK hP hD hS hA hl
  generalize List.toArray _ = args at hC ⊢
  obtain ⟨hx, hb, hml, hown, hts⟩ := id hC
  have hret : ∀ (H : Heap) (locs : List Loc) (pc : Nat) (ls : Array Slot) (r : Int32), va_S A s.heap H locs → va_P (dC, dI) vwCl (xW cI cZ h a qph qgr qne qap qle qfu qpc qgd qri qnw qtk qsv qwa qgi qlo qtu) H → va_D A (xW cI cZ h a qph qgr qne qap qle qfu qpc qgd qri qnw qtk qsv qwa qgi qlo qtu) → r = (X0_need qne qpc n i) → decode cX0_need pc = .ok (.ireturn, 1) → W p l e rmX0_need s m args below meth c H locs 0 0 (MQ below (va_Qi (fun r (_ : Unit) => r = (X0_need qne qpc n i)) (kBeh dC dI A (xW cI cZ h a qph qgr qne qap qle qfu qpc qgd qri qnw qtk qsv qwa qgi qlo qtu)) A) args s 0 0 A) (F0 m pc ls [.int r]) := fun H locs pc ls r hS hP hD hv d => k_iret hx hb hr hlocks hS hP hD hv d
  generalize MQ below _ _ _ _ _ _ = Q at hret ⊢
  have hin : ∀ w ∈ wsX00, w ∈ wsX0_need := by decide +kernel
  have hw0 := hts (.fieldLink RX0 16 "ChargePark" "needOf" "[I") (by decide +kernel)
  have hl : lv_has ls 2 [(0, .ref h), (1, .int i)] := hl
  have hP : va_P (dC, dI) vwCl (xW cI cZ h a qph qgr qne qap qle qfu qpc qgd qri qnw qtk qsv qwa qgi qlo qtu) s.heap := hP
  have hW : ∀ (H : Heap) (locs : List Loc), va_P (dC, dI) vwCl (xW cI cZ h a qph qgr qne qap qle qfu qpc qgd qri qnw qtk qsv qwa qgi qlo qtu) H → va_D A (xW cI cZ h a qph qgr qne qap qle qfu qpc qgd qri qnw qtk qsv qwa qgi qlo qtu) → va_S A s.heap H locs → W p l e rmX0_need s m args below meth c H locs 0 0 Q (F0 m 0 ls []) := by
    intro H locs hP hD hS
    refine lv_aload_n hx hb dX0_need_0 rfl (lv_at hl 0 rfl) ?_
    refine lv_iload_n hx hb dX0_need_1 rfl (lv_at hl 1 rfl) ?_
    by_cases c2 : (X0_requirePoint_T qpc i) = 0
    · refine k_callv (rest := []) (q0 := 0) hC (c_X0_requirePoint l dC dI cI cZ h a qph qgr qne qap qle qfu qpc qgd qri qnw qtk qsv qwa qgi qlo qtu  i c2) (cwV 1 hts gX0_need_X0_requirePoint rfl rfl rfl hd_X0_requirePoint ⟨Nat.le_of_ble_eq_true rfl, Nat.le_of_ble_eq_true rfl⟩) hK hP hD hS hA rfl rfl rfl hl.1 (Nat.le_of_ble_eq_true rfl) dX0_need_2 rfl ⟨Nat.zero_le _, Nat.zero_le _⟩ (fun H locs hP hD hS => ?_)
      refine lv_aload_n hx hb dX0_need_5 rfl (lv_at hl 0 rfl) ?_
      refine va_get (D := (dC, dI)) (ci := 0) (v := .ref (a 2)) (C := RX0) (T := TX0) (N := 16) hx hb hts hin hown hK hP 0 rfl rfl 2 (by decide) hw0 (fun _ h9 => h9) rfl dX0_need_6 ?_
      refine lv_iload_n hx hb dX0_need_9 rfl (lv_at hl 1 rfl) ?_
      refine va_iald (f := qne) hx hb hK hP 3 0 rfl rfl (rq_in hpc hn c2) dX0_need_10 ?_
      exact hret H locs 11 ls (qne i.toNatClampNeg) hS hP hD (by rw [X0_need, if_pos c2]) dX0_need_11
    · rw [X0_need_T, if_neg c2] at hok
      exact absurd hok (by decide)
  exact hW _ _ hP hD hS
abbrev rmxX0_need : Room := { frames := 7, cells := 1, slots := 6, locals := 103 }
set_option maxHeartbeats 4000000 in
set_option maxRecDepth 100000 in
theorem cx_X0_need (l : Launch) (hl0 : l.stackTraces = false) (dC : Nat → ClassId) (dI : Nat → Nat → Nat) (cI cZ : ClassId) (h : Nat) (a : Nat → Nat) (qph : AR) (qgr : AR) (qne : AR) (qap : AR) (qle : AR) (qfu : AR) (qpc : Int32) (qgd : Int32) (qri : Int32) (qnw : Int32) (qtk : Int32) (qsv : Int32) (qwa : AR) (qgi : AR) (qlo : AR) (qtu : AR) (n : Nat) (i : Int32) (hpc : qpc = nI n) (hn : n ≤ 8) (hbad : ¬ X0_need_T qpc n i = 0) : Kx l yX0_need wsX0_need rmxX0_need dC dI cI cZ [.ref h, .int i] (xW cI cZ h a qph qgr qne qap qle qfu qpc qgd qri qnw qtk qsv qwa qgi qlo qtu) (fun E => (X0_need_T qpc n i = 1 ∧ E = nIO)) := by
  refine k_enter_x (cc := cX0_need) (maxL := 2) (ret := some .int) (by decide) rfl (Nat.le_of_ble_eq_true rfl) ?_
  intro p e s m below meth c A ls hC hlocks htab hK hNs hZ hP hD hS hA hl
  generalize List.toArray _ = args at hC ⊢
  obtain ⟨hx, hb, hml, hown, hts⟩ := id hC
  have hl : lv_has ls 2 [(0, .ref h), (1, .int i)] := hl
  have hP : va_P (dC, dI) vwCl (xW cI cZ h a qph qgr qne qap qle qfu qpc qgd qri qnw qtk qsv qwa qgi qlo qtu) s.heap := hP
  refine lv_aload_n hx hb dX0_need_0 rfl (lv_at hl 0 rfl) ?_
  refine lv_iload_n hx hb dX0_need_1 rfl (lv_at hl 1 rfl) ?_
  by_cases c2 : (X0_requirePoint_T qpc i) = 0
  · refine k_callv (rest := []) (q0 := 0) hC (c_X0_requirePoint l dC dI cI cZ h a qph qgr qne qap qle qfu qpc qgd qri qnw qtk qsv qwa qgi qlo qtu  i c2) (cwV 1 hts gX0_need_X0_requirePoint rfl rfl rfl hd_X0_requirePoint ⟨Nat.le_of_ble_eq_true rfl, Nat.le_of_ble_eq_true rfl⟩) hK hP hD hS hA rfl rfl rfl hl.1 (Nat.le_of_ble_eq_true rfl) dX0_need_2 rfl ⟨Nat.zero_le _, Nat.zero_le _⟩ (fun H locs hP hD hS => ?_)
    exact absurd (by rw [X0_need_T, if_pos c2]) hbad
  · refine kx_callV (rest := []) (q0 := 0) hC (cx_X0_requirePoint l hl0 dC dI cI cZ h a qph qgr qne qap qle qfu qpc qgd qri qnw qtk qsv qwa qgi qlo qtu  i c2) (cwV 1 hts gX0_need_X0_requirePoint rfl rfl rfl hd_X0_requirePoint ⟨Nat.le_of_ble_eq_true rfl, Nat.le_of_ble_eq_true rfl⟩) hK hNs hZ hP hD hS hA rfl rfl rfl hl.1 (Nat.le_of_ble_eq_true rfl) dX0_need_2 rfl ⟨Nat.le_of_ble_eq_true rfl, Nat.le_of_ble_eq_true rfl⟩ (fun E ce q H locs hex hP hD hS hcell hv hcl => ?_)
    exact kx_out htab hlocks hcell hv hcl hS hP hD (⟨by rw [X0_need_T, if_neg c2], hex.2⟩) (Nat.le_of_ble_eq_true rfl) (Nat.le_of_ble_eq_true rfl)
def X0_left_T (qpc : Int32) (n : Nat) (i : Int32) : Int32 := (if (X0_requirePoint_T qpc i) = 0 then 0 else 1)
def X0_left (qne : AR) (qle : AR) (qpc : Int32) (qnw : Int32) (n : Nat) (i : Int32) : Int32 := (if (X0_requirePoint_T qpc i) = 0 then (if (X0_hasCar qne i) = 0 then (-1) else (X0_stepsLeftAt qle qnw i)) else 0)
abbrev rmX0_left : Room := { frames := 2, cells := 0, slots := 0, locals := 34 }
theorem hd_X0_left : yX0_left.cls = RX0 ∧ yX0_left.cls ≠ "java/lang/invoke/MethodHandle" ∧ yX0_left.cls ≠ "java/lang/invoke/VarHandle" ∧ (parseMethodDescriptor yX0_left.desc).map (fun d => d.parameters.length) = some 1 := by decide +kernel
set_option maxHeartbeats 4000000 in
set_option maxRecDepth 100000 in
theorem c_X0_left (l : Launch) (dC : Nat → ClassId) (dI : Nat → Nat → Nat) (cI cZ : ClassId) (h : Nat) (a : Nat → Nat) (qph : AR) (qgr : AR) (qne : AR) (qap : AR) (qle : AR) (qfu : AR) (qpc : Int32) (qgd : Int32) (qri : Int32) (qnw : Int32) (qtk : Int32) (qsv : Int32) (qwa : AR) (qgi : AR) (qlo : AR) (qtu : AR) (n : Nat) (i : Int32) (hpc : qpc = nI n) (hn : n ≤ 8) (hok : X0_left_T qpc n i = 0) : Ki l yX0_left wsX0_left rmX0_left dC dI cI cZ [.ref h, .int i] (xW cI cZ h a qph qgr qne qap qle qfu qpc qgd qri qnw qtk qsv qwa qgi qlo qtu) (xW cI cZ h a qph qgr qne qap qle qfu qpc qgd qri qnw qtk qsv qwa qgi qlo qtu) (X0_left qne qle qpc qnw n i) := by
  refine k_enter_i (cc := cX0_left) (maxL := 2) (ret := some .int) (by decide) rfl (Nat.le_of_ble_eq_true rfl) ?_
  intro p e s m below meth c A ls hC hr hlocks hK hP hD hS hA hl
  generalize List.toArray _ = args at hC ⊢
  obtain ⟨hx, hb, hml, hown, hts⟩ := id hC
  have hret : ∀ (H : Heap) (locs : List Loc) (pc : Nat) (ls : Array Slot) (r : Int32), va_S A s.heap H locs → va_P (dC, dI) vwCl (xW cI cZ h a qph qgr qne qap qle qfu qpc qgd qri qnw qtk qsv qwa qgi qlo qtu) H → va_D A (xW cI cZ h a qph qgr qne qap qle qfu qpc qgd qri qnw qtk qsv qwa qgi qlo qtu) → r = (X0_left qne qle qpc qnw n i) → decode cX0_left pc = .ok (.ireturn, 1) → W p l e rmX0_left s m args below meth c H locs 0 0 (MQ below (va_Qi (fun r (_ : Unit) => r = (X0_left qne qle qpc qnw n i)) (kBeh dC dI A (xW cI cZ h a qph qgr qne qap qle qfu qpc qgd qri qnw qtk qsv qwa qgi qlo qtu)) A) args s 0 0 A) (F0 m pc ls [.int r]) := fun H locs pc ls r hS hP hD hv d => k_iret hx hb hr hlocks hS hP hD hv d
  generalize MQ below _ _ _ _ _ _ = Q at hret ⊢
  have hl : lv_has ls 2 [(0, .ref h), (1, .int i)] := hl
  have hP : va_P (dC, dI) vwCl (xW cI cZ h a qph qgr qne qap qle qfu qpc qgd qri qnw qtk qsv qwa qgi qlo qtu) s.heap := hP
  have hW : ∀ (H : Heap) (locs : List Loc), va_P (dC, dI) vwCl (xW cI cZ h a qph qgr qne qap qle qfu qpc qgd qri qnw qtk qsv qwa qgi qlo qtu) H → va_D A (xW cI cZ h a qph qgr qne qap qle qfu qpc qgd qri qnw qtk qsv qwa qgi qlo qtu) → va_S A s.heap H locs → W p l e rmX0_left s m args below meth c H locs 0 0 Q (F0 m 0 ls []) := by
    intro H locs hP hD hS
    refine lv_aload_n hx hb dX0_left_0 rfl (lv_at hl 0 rfl) ?_
    refine lv_iload_n hx hb dX0_left_1 rfl (lv_at hl 1 rfl) ?_
    by_cases c2 : (X0_requirePoint_T qpc i) = 0
    · refine k_callv (rest := []) (q0 := 0) hC (c_X0_requirePoint l dC dI cI cZ h a qph qgr qne qap qle qfu qpc qgd qri qnw qtk qsv qwa qgi qlo qtu  i c2) (cwV 1 hts gX0_left_X0_requirePoint rfl rfl rfl hd_X0_requirePoint ⟨Nat.le_of_ble_eq_true rfl, Nat.le_of_ble_eq_true rfl⟩) hK hP hD hS hA rfl rfl rfl hl.1 (Nat.le_of_ble_eq_true rfl) dX0_left_2 rfl ⟨Nat.zero_le _, Nat.zero_le _⟩ (fun H locs hP hD hS => ?_)
      refine lv_aload_n hx hb dX0_left_5 rfl (lv_at hl 0 rfl) ?_
      refine lv_iload_n hx hb dX0_left_6 rfl (lv_at hl 1 rfl) ?_
      refine k_calli (rest := []) (q0 := 0) hC (c_X0_hasCar l dC dI cI cZ h a qph qgr qne qap qle qfu qpc qgd qri qnw qtk qsv qwa qgi qlo qtu  i (rq_in hpc hn c2)) (cwV 1 hts gX0_left_X0_hasCar rfl rfl rfl hd_X0_hasCar ⟨Nat.le_of_ble_eq_true rfl, Nat.le_of_ble_eq_true rfl⟩) hK hP hD hS hA rfl rfl rfl hl.1 (Nat.le_of_ble_eq_true rfl) dX0_left_7 rfl ⟨Nat.zero_le _, Nat.zero_le _⟩ (fun H locs hP hD hS => ?_)
      refine lv_if_eq (tgt := 21) hx hb dX0_left_10 (by decide) (fun c10 => ?_) (fun c10 => ?_)
      · refine lv_iconst (v := (-1)) hx hb dX0_left_21 (by decide) ?_
        exact hret H locs 22 ls (-1) hS hP hD (by rw [X0_left, if_pos c2, if_pos c10]) dX0_left_22
      · refine lv_aload_n hx hb dX0_left_13 rfl (lv_at hl 0 rfl) ?_
        refine lv_iload_n hx hb dX0_left_14 rfl (lv_at hl 1 rfl) ?_
        refine k_calli (rest := []) (q0 := 0) hC (c_X0_stepsLeftAt l dC dI cI cZ h a qph qgr qne qap qle qfu qpc qgd qri qnw qtk qsv qwa qgi qlo qtu  i (rq_in hpc hn c2)) (cwV 1 hts gX0_left_X0_stepsLeftAt rfl rfl rfl hd_X0_stepsLeftAt ⟨Nat.le_of_ble_eq_true rfl, Nat.le_of_ble_eq_true rfl⟩) hK hP hD hS hA rfl rfl rfl hl.1 (Nat.le_of_ble_eq_true rfl) dX0_left_15 rfl ⟨Nat.zero_le _, Nat.zero_le _⟩ (fun H locs hP hD hS => ?_)
        refine lv_goto (tgt := 22) hx hb dX0_left_18 (by decide) ?_
        exact hret H locs 22 ls (X0_stepsLeftAt qle qnw i) hS hP hD (by rw [X0_left, if_pos c2, if_neg c10]) dX0_left_22
    · rw [X0_left_T, if_neg c2] at hok
      exact absurd hok (by decide)
  exact hW _ _ hP hD hS
abbrev rmxX0_left : Room := { frames := 7, cells := 1, slots := 6, locals := 103 }
set_option maxHeartbeats 4000000 in
set_option maxRecDepth 100000 in
theorem cx_X0_left (l : Launch) (hl0 : l.stackTraces = false) (dC : Nat → ClassId) (dI : Nat → Nat → Nat) (cI cZ : ClassId) (h : Nat) (a : Nat → Nat) (qph : AR) (qgr : AR) (qne : AR) (qap : AR) (qle : AR) (qfu : AR) (qpc : Int32) (qgd : Int32) (qri : Int32) (qnw : Int32) (qtk : Int32) (qsv : Int32) (qwa : AR) (qgi : AR) (qlo : AR) (qtu : AR) (n : Nat) (i : Int32) (hpc : qpc = nI n) (hn : n ≤ 8) (hbad : ¬ X0_left_T qpc n i = 0) : Kx l yX0_left wsX0_left rmxX0_left dC dI cI cZ [.ref h, .int i] (xW cI cZ h a qph qgr qne qap qle qfu qpc qgd qri qnw qtk qsv qwa qgi qlo qtu) (fun E => (X0_left_T qpc n i = 1 ∧ E = nIO)) := by
  refine k_enter_x (cc := cX0_left) (maxL := 2) (ret := some .int) (by decide) rfl (Nat.le_of_ble_eq_true rfl) ?_
  intro p e s m below meth c A ls hC hlocks htab hK hNs hZ hP hD hS hA hl
  generalize List.toArray _ = args at hC ⊢
  obtain ⟨hx, hb, hml, hown, hts⟩ := id hC
  have hl : lv_has ls 2 [(0, .ref h), (1, .int i)] := hl
  have hP : va_P (dC, dI) vwCl (xW cI cZ h a qph qgr qne qap qle qfu qpc qgd qri qnw qtk qsv qwa qgi qlo qtu) s.heap := hP
  refine lv_aload_n hx hb dX0_left_0 rfl (lv_at hl 0 rfl) ?_
  refine lv_iload_n hx hb dX0_left_1 rfl (lv_at hl 1 rfl) ?_
  by_cases c2 : (X0_requirePoint_T qpc i) = 0
  · refine k_callv (rest := []) (q0 := 0) hC (c_X0_requirePoint l dC dI cI cZ h a qph qgr qne qap qle qfu qpc qgd qri qnw qtk qsv qwa qgi qlo qtu  i c2) (cwV 1 hts gX0_left_X0_requirePoint rfl rfl rfl hd_X0_requirePoint ⟨Nat.le_of_ble_eq_true rfl, Nat.le_of_ble_eq_true rfl⟩) hK hP hD hS hA rfl rfl rfl hl.1 (Nat.le_of_ble_eq_true rfl) dX0_left_2 rfl ⟨Nat.zero_le _, Nat.zero_le _⟩ (fun H locs hP hD hS => ?_)
    exact absurd (by rw [X0_left_T, if_pos c2]) hbad
  · refine kx_callV (rest := []) (q0 := 0) hC (cx_X0_requirePoint l hl0 dC dI cI cZ h a qph qgr qne qap qle qfu qpc qgd qri qnw qtk qsv qwa qgi qlo qtu  i c2) (cwV 1 hts gX0_left_X0_requirePoint rfl rfl rfl hd_X0_requirePoint ⟨Nat.le_of_ble_eq_true rfl, Nat.le_of_ble_eq_true rfl⟩) hK hNs hZ hP hD hS hA rfl rfl rfl hl.1 (Nat.le_of_ble_eq_true rfl) dX0_left_2 rfl ⟨Nat.le_of_ble_eq_true rfl, Nat.le_of_ble_eq_true rfl⟩ (fun E ce q H locs hex hP hD hS hcell hv hcl => ?_)
    exact kx_out htab hlocks hcell hv hcl hS hP hD (⟨by rw [X0_left_T, if_neg c2], hex.2⟩) (Nat.le_of_ble_eq_true rfl) (Nat.le_of_ble_eq_true rfl)
def X0_laxity_T (qne : AR) (qpc : Int32) (n : Nat) (i : Int32) : Int32 := (if (X0_requirePoint_T qpc i) = 0 then (if (X0_requireCar_T qne i) = 0 then 0 else 2) else 1)
def X0_laxity (qph : AR) (qgr : AR) (qne : AR) (qap : AR) (qle : AR) (qpc : Int32) (qnw : Int32) (n : Nat) (i : Int32) : Int32 := (if (X0_requirePoint_T qpc i) = 0 then (if (X0_requireCar_T qne i) = 0 then (X0_laxityAt qph qgr qne qap qle qnw i) else 0) else 0)
abbrev rmX0_laxity : Room := { frames := 3, cells := 0, slots := 0, locals := 56 }
theorem hd_X0_laxity : yX0_laxity.cls = RX0 ∧ yX0_laxity.cls ≠ "java/lang/invoke/MethodHandle" ∧ yX0_laxity.cls ≠ "java/lang/invoke/VarHandle" ∧ (parseMethodDescriptor yX0_laxity.desc).map (fun d => d.parameters.length) = some 1 := by decide +kernel
set_option maxHeartbeats 4000000 in
set_option maxRecDepth 100000 in
theorem c_X0_laxity (l : Launch) (dC : Nat → ClassId) (dI : Nat → Nat → Nat) (cI cZ : ClassId) (h : Nat) (a : Nat → Nat) (qph : AR) (qgr : AR) (qne : AR) (qap : AR) (qle : AR) (qfu : AR) (qpc : Int32) (qgd : Int32) (qri : Int32) (qnw : Int32) (qtk : Int32) (qsv : Int32) (qwa : AR) (qgi : AR) (qlo : AR) (qtu : AR) (n : Nat) (i : Int32) (hpc : qpc = nI n) (hn : n ≤ 8) (hok : X0_laxity_T qne qpc n i = 0) : Ki l yX0_laxity wsX0_laxity rmX0_laxity dC dI cI cZ [.ref h, .int i] (xW cI cZ h a qph qgr qne qap qle qfu qpc qgd qri qnw qtk qsv qwa qgi qlo qtu) (xW cI cZ h a qph qgr qne qap qle qfu qpc qgd qri qnw qtk qsv qwa qgi qlo qtu) (X0_laxity qph qgr qne qap qle qpc qnw n i) := by
  refine k_enter_i (cc := cX0_laxity) (maxL := 2) (ret := some .int) (by decide) rfl (Nat.le_of_ble_eq_true rfl) ?_
  intro p e s m below meth c A ls hC hr hlocks hK hP hD hS hA hl
  generalize List.toArray _ = args at hC ⊢
  obtain ⟨hx, hb, hml, hown, hts⟩ := id hC
  have hret : ∀ (H : Heap) (locs : List Loc) (pc : Nat) (ls : Array Slot) (r : Int32), va_S A s.heap H locs → va_P (dC, dI) vwCl (xW cI cZ h a qph qgr qne qap qle qfu qpc qgd qri qnw qtk qsv qwa qgi qlo qtu) H → va_D A (xW cI cZ h a qph qgr qne qap qle qfu qpc qgd qri qnw qtk qsv qwa qgi qlo qtu) → r = (X0_laxity qph qgr qne qap qle qpc qnw n i) → decode cX0_laxity pc = .ok (.ireturn, 1) → W p l e rmX0_laxity s m args below meth c H locs 0 0 (MQ below (va_Qi (fun r (_ : Unit) => r = (X0_laxity qph qgr qne qap qle qpc qnw n i)) (kBeh dC dI A (xW cI cZ h a qph qgr qne qap qle qfu qpc qgd qri qnw qtk qsv qwa qgi qlo qtu)) A) args s 0 0 A) (F0 m pc ls [.int r]) := fun H locs pc ls r hS hP hD hv d => k_iret hx hb hr hlocks hS hP hD hv d
  generalize MQ below _ _ _ _ _ _ = Q at hret ⊢
  have hl : lv_has ls 2 [(0, .ref h), (1, .int i)] := hl
  have hP : va_P (dC, dI) vwCl (xW cI cZ h a qph qgr qne qap qle qfu qpc qgd qri qnw qtk qsv qwa qgi qlo qtu) s.heap := hP
  have hW : ∀ (H : Heap) (locs : List Loc), va_P (dC, dI) vwCl (xW cI cZ h a qph qgr qne qap qle qfu qpc qgd qri qnw qtk qsv qwa qgi qlo qtu) H → va_D A (xW cI cZ h a qph qgr qne qap qle qfu qpc qgd qri qnw qtk qsv qwa qgi qlo qtu) → va_S A s.heap H locs → W p l e rmX0_laxity s m args below meth c H locs 0 0 Q (F0 m 0 ls []) := by
    intro H locs hP hD hS
    refine lv_aload_n hx hb dX0_laxity_0 rfl (lv_at hl 0 rfl) ?_
    refine lv_iload_n hx hb dX0_laxity_1 rfl (lv_at hl 1 rfl) ?_
    by_cases c2 : (X0_requirePoint_T qpc i) = 0
    · refine k_callv (rest := []) (q0 := 0) hC (c_X0_requirePoint l dC dI cI cZ h a qph qgr qne qap qle qfu qpc qgd qri qnw qtk qsv qwa qgi qlo qtu  i c2) (cwV 1 hts gX0_laxity_X0_requirePoint rfl rfl rfl hd_X0_requirePoint ⟨Nat.le_of_ble_eq_true rfl, Nat.le_of_ble_eq_true rfl⟩) hK hP hD hS hA rfl rfl rfl hl.1 (Nat.le_of_ble_eq_true rfl) dX0_laxity_2 rfl ⟨Nat.zero_le _, Nat.zero_le _⟩ (fun H locs hP hD hS => ?_)
      refine lv_aload_n hx hb dX0_laxity_5 rfl (lv_at hl 0 rfl) ?_
      refine lv_iload_n hx hb dX0_laxity_6 rfl (lv_at hl 1 rfl) ?_
      by_cases c7 : (X0_requireCar_T qne i) = 0
      · refine k_callv (rest := []) (q0 := 0) hC (c_X0_requireCar l dC dI cI cZ h a qph qgr qne qap qle qfu qpc qgd qri qnw qtk qsv qwa qgi qlo qtu  i (rq_in hpc hn c2) c7) (cwV 1 hts gX0_laxity_X0_requireCar rfl rfl rfl hd_X0_requireCar ⟨Nat.le_of_ble_eq_true rfl, Nat.le_of_ble_eq_true rfl⟩) hK hP hD hS hA rfl rfl rfl hl.1 (Nat.le_of_ble_eq_true rfl) dX0_laxity_7 rfl ⟨Nat.zero_le _, Nat.zero_le _⟩ (fun H locs hP hD hS => ?_)
        refine lv_aload_n hx hb dX0_laxity_10 rfl (lv_at hl 0 rfl) ?_
        refine lv_iload_n hx hb dX0_laxity_11 rfl (lv_at hl 1 rfl) ?_
        refine k_calli (rest := []) (q0 := 0) hC (c_X0_laxityAt l dC dI cI cZ h a qph qgr qne qap qle qfu qpc qgd qri qnw qtk qsv qwa qgi qlo qtu  i (rq_in hpc hn c2)) (cwV 1 hts gX0_laxity_X0_laxityAt rfl rfl rfl hd_X0_laxityAt ⟨Nat.le_of_ble_eq_true rfl, Nat.le_of_ble_eq_true rfl⟩) hK hP hD hS hA rfl rfl rfl hl.1 (Nat.le_of_ble_eq_true rfl) dX0_laxity_12 rfl ⟨Nat.zero_le _, Nat.zero_le _⟩ (fun H locs hP hD hS => ?_)
        exact hret H locs 15 ls (X0_laxityAt qph qgr qne qap qle qnw i) hS hP hD (by rw [X0_laxity, if_pos c2, if_pos c7]) dX0_laxity_15
      · rw [X0_laxity_T, if_pos c2, if_neg c7] at hok
        exact absurd hok (by decide)
    · rw [X0_laxity_T, if_neg c2] at hok
      exact absurd hok (by decide)
  exact hW _ _ hP hD hS
abbrev rmxX0_laxity : Room := { frames := 7, cells := 1, slots := 6, locals := 103 }
set_option maxHeartbeats 4000000 in
set_option maxRecDepth 100000 in
theorem cx_X0_laxity (l : Launch) (hl0 : l.stackTraces = false) (dC : Nat → ClassId) (dI : Nat → Nat → Nat) (cI cZ : ClassId) (h : Nat) (a : Nat → Nat) (qph : AR) (qgr : AR) (qne : AR) (qap : AR) (qle : AR) (qfu : AR) (qpc : Int32) (qgd : Int32) (qri : Int32) (qnw : Int32) (qtk : Int32) (qsv : Int32) (qwa : AR) (qgi : AR) (qlo : AR) (qtu : AR) (n : Nat) (i : Int32) (hpc : qpc = nI n) (hn : n ≤ 8) (hbad : ¬ X0_laxity_T qne qpc n i = 0) : Kx l yX0_laxity wsX0_laxity rmxX0_laxity dC dI cI cZ [.ref h, .int i] (xW cI cZ h a qph qgr qne qap qle qfu qpc qgd qri qnw qtk qsv qwa qgi qlo qtu) (fun E => (X0_laxity_T qne qpc n i = 1 ∧ E = nIO) ∨ (X0_laxity_T qne qpc n i = 2 ∧ E = nIS)) := by
  refine k_enter_x (cc := cX0_laxity) (maxL := 2) (ret := some .int) (by decide) rfl (Nat.le_of_ble_eq_true rfl) ?_
  intro p e s m below meth c A ls hC hlocks htab hK hNs hZ hP hD hS hA hl
  generalize List.toArray _ = args at hC ⊢
  obtain ⟨hx, hb, hml, hown, hts⟩ := id hC
  have hl : lv_has ls 2 [(0, .ref h), (1, .int i)] := hl
  have hP : va_P (dC, dI) vwCl (xW cI cZ h a qph qgr qne qap qle qfu qpc qgd qri qnw qtk qsv qwa qgi qlo qtu) s.heap := hP
  refine lv_aload_n hx hb dX0_laxity_0 rfl (lv_at hl 0 rfl) ?_
  refine lv_iload_n hx hb dX0_laxity_1 rfl (lv_at hl 1 rfl) ?_
  by_cases c2 : (X0_requirePoint_T qpc i) = 0
  · refine k_callv (rest := []) (q0 := 0) hC (c_X0_requirePoint l dC dI cI cZ h a qph qgr qne qap qle qfu qpc qgd qri qnw qtk qsv qwa qgi qlo qtu  i c2) (cwV 1 hts gX0_laxity_X0_requirePoint rfl rfl rfl hd_X0_requirePoint ⟨Nat.le_of_ble_eq_true rfl, Nat.le_of_ble_eq_true rfl⟩) hK hP hD hS hA rfl rfl rfl hl.1 (Nat.le_of_ble_eq_true rfl) dX0_laxity_2 rfl ⟨Nat.zero_le _, Nat.zero_le _⟩ (fun H locs hP hD hS => ?_)
    refine lv_aload_n hx hb dX0_laxity_5 rfl (lv_at hl 0 rfl) ?_
    refine lv_iload_n hx hb dX0_laxity_6 rfl (lv_at hl 1 rfl) ?_
    by_cases c7 : (X0_requireCar_T qne i) = 0
    · refine k_callv (rest := []) (q0 := 0) hC (c_X0_requireCar l dC dI cI cZ h a qph qgr qne qap qle qfu qpc qgd qri qnw qtk qsv qwa qgi qlo qtu  i (rq_in hpc hn c2) c7) (cwV 1 hts gX0_laxity_X0_requireCar rfl rfl rfl hd_X0_requireCar ⟨Nat.le_of_ble_eq_true rfl, Nat.le_of_ble_eq_true rfl⟩) hK hP hD hS hA rfl rfl rfl hl.1 (Nat.le_of_ble_eq_true rfl) dX0_laxity_7 rfl ⟨Nat.zero_le _, Nat.zero_le _⟩ (fun H locs hP hD hS => ?_)
      exact absurd (by rw [X0_laxity_T, if_pos c2, if_pos c7]) hbad
    · refine kx_callV (rest := []) (q0 := 0) hC (cx_X0_requireCar l hl0 dC dI cI cZ h a qph qgr qne qap qle qfu qpc qgd qri qnw qtk qsv qwa qgi qlo qtu  i (rq_in hpc hn c2) c7) (cwV 1 hts gX0_laxity_X0_requireCar rfl rfl rfl hd_X0_requireCar ⟨Nat.le_of_ble_eq_true rfl, Nat.le_of_ble_eq_true rfl⟩) hK hNs hZ hP hD hS hA rfl rfl rfl hl.1 (Nat.le_of_ble_eq_true rfl) dX0_laxity_7 rfl ⟨Nat.le_of_ble_eq_true rfl, Nat.le_of_ble_eq_true rfl⟩ (fun E ce q H locs hex hP hD hS hcell hv hcl => ?_)
      exact kx_out htab hlocks hcell hv hcl hS hP hD (Or.inr (⟨by rw [X0_laxity_T, if_pos c2, if_neg c7], hex.2⟩)) (Nat.le_of_ble_eq_true rfl) (Nat.le_of_ble_eq_true rfl)
  · refine kx_callV (rest := []) (q0 := 0) hC (cx_X0_requirePoint l hl0 dC dI cI cZ h a qph qgr qne qap qle qfu qpc qgd qri qnw qtk qsv qwa qgi qlo qtu  i c2) (cwV 1 hts gX0_laxity_X0_requirePoint rfl rfl rfl hd_X0_requirePoint ⟨Nat.le_of_ble_eq_true rfl, Nat.le_of_ble_eq_true rfl⟩) hK hNs hZ hP hD hS hA rfl rfl rfl hl.1 (Nat.le_of_ble_eq_true rfl) dX0_laxity_2 rfl ⟨Nat.le_of_ble_eq_true rfl, Nat.le_of_ble_eq_true rfl⟩ (fun E ce q H locs hex hP hD hS hcell hv hcl => ?_)
    exact kx_out htab hlocks hcell hv hcl hS hP hD (Or.inl ⟨by rw [X0_laxity_T, if_neg c2], hex.2⟩) (Nat.le_of_ble_eq_true rfl) (Nat.le_of_ble_eq_true rfl)
def X0_reach_T (qpc : Int32) (n : Nat) (i : Int32) : Int32 := (if (X0_requirePoint_T qpc i) = 0 then 0 else 1)
def X0_reach (qph : AR) (qgr : AR) (qne : AR) (qap : AR) (qle : AR) (qpc : Int32) (qnw : Int32) (n : Nat) (i : Int32) : Int32 := (if (X0_requirePoint_T qpc i) = 0 then (X0_reachAt qph qgr qne qap qle qnw i) else 0)
abbrev rmX0_reach : Room := { frames := 3, cells := 0, slots := 0, locals := 56 }
theorem hd_X0_reach : yX0_reach.cls = RX0 ∧ yX0_reach.cls ≠ "java/lang/invoke/MethodHandle" ∧ yX0_reach.cls ≠ "java/lang/invoke/VarHandle" ∧ (parseMethodDescriptor yX0_reach.desc).map (fun d => d.parameters.length) = some 1 := by decide +kernel
set_option maxHeartbeats 4000000 in
set_option maxRecDepth 100000 in
theorem c_X0_reach (l : Launch) (dC : Nat → ClassId) (dI : Nat → Nat → Nat) (cI cZ : ClassId) (h : Nat) (a : Nat → Nat) (qph : AR) (qgr : AR) (qne : AR) (qap : AR) (qle : AR) (qfu : AR) (qpc : Int32) (qgd : Int32) (qri : Int32) (qnw : Int32) (qtk : Int32) (qsv : Int32) (qwa : AR) (qgi : AR) (qlo : AR) (qtu : AR) (n : Nat) (i : Int32) (hpc : qpc = nI n) (hn : n ≤ 8) (hok : X0_reach_T qpc n i = 0) : Ki l yX0_reach wsX0_reach rmX0_reach dC dI cI cZ [.ref h, .int i] (xW cI cZ h a qph qgr qne qap qle qfu qpc qgd qri qnw qtk qsv qwa qgi qlo qtu) (xW cI cZ h a qph qgr qne qap qle qfu qpc qgd qri qnw qtk qsv qwa qgi qlo qtu) (X0_reach qph qgr qne qap qle qpc qnw n i) := by
  refine k_enter_i (cc := cX0_reach) (maxL := 2) (ret := some .int) (by decide) rfl (Nat.le_of_ble_eq_true rfl) ?_
  intro p e s m below meth c A ls hC hr hlocks hK hP hD hS hA hl
  generalize List.toArray _ = args at hC ⊢
  obtain ⟨hx, hb, hml, hown, hts⟩ := id hC
  have hret : ∀ (H : Heap) (locs : List Loc) (pc : Nat) (ls : Array Slot) (r : Int32), va_S A s.heap H locs → va_P (dC, dI) vwCl (xW cI cZ h a qph qgr qne qap qle qfu qpc qgd qri qnw qtk qsv qwa qgi qlo qtu) H → va_D A (xW cI cZ h a qph qgr qne qap qle qfu qpc qgd qri qnw qtk qsv qwa qgi qlo qtu) → r = (X0_reach qph qgr qne qap qle qpc qnw n i) → decode cX0_reach pc = .ok (.ireturn, 1) → W p l e rmX0_reach s m args below meth c H locs 0 0 (MQ below (va_Qi (fun r (_ : Unit) => r = (X0_reach qph qgr qne qap qle qpc qnw n i)) (kBeh dC dI A (xW cI cZ h a qph qgr qne qap qle qfu qpc qgd qri qnw qtk qsv qwa qgi qlo qtu)) A) args s 0 0 A) (F0 m pc ls [.int r]) := fun H locs pc ls r hS hP hD hv d => k_iret hx hb hr hlocks hS hP hD hv d
  generalize MQ below _ _ _ _ _ _ = Q at hret ⊢
  have hl : lv_has ls 2 [(0, .ref h), (1, .int i)] := hl
  have hP : va_P (dC, dI) vwCl (xW cI cZ h a qph qgr qne qap qle qfu qpc qgd qri qnw qtk qsv qwa qgi qlo qtu) s.heap := hP
  have hW : ∀ (H : Heap) (locs : List Loc), va_P (dC, dI) vwCl (xW cI cZ h a qph qgr qne qap qle qfu qpc qgd qri qnw qtk qsv qwa qgi qlo qtu) H → va_D A (xW cI cZ h a qph qgr qne qap qle qfu qpc qgd qri qnw qtk qsv qwa qgi qlo qtu) → va_S A s.heap H locs → W p l e rmX0_reach s m args below meth c H locs 0 0 Q (F0 m 0 ls []) := by
    intro H locs hP hD hS
    refine lv_aload_n hx hb dX0_reach_0 rfl (lv_at hl 0 rfl) ?_
    refine lv_iload_n hx hb dX0_reach_1 rfl (lv_at hl 1 rfl) ?_
    by_cases c2 : (X0_requirePoint_T qpc i) = 0
    · refine k_callv (rest := []) (q0 := 0) hC (c_X0_requirePoint l dC dI cI cZ h a qph qgr qne qap qle qfu qpc qgd qri qnw qtk qsv qwa qgi qlo qtu  i c2) (cwV 1 hts gX0_reach_X0_requirePoint rfl rfl rfl hd_X0_requirePoint ⟨Nat.le_of_ble_eq_true rfl, Nat.le_of_ble_eq_true rfl⟩) hK hP hD hS hA rfl rfl rfl hl.1 (Nat.le_of_ble_eq_true rfl) dX0_reach_2 rfl ⟨Nat.zero_le _, Nat.zero_le _⟩ (fun H locs hP hD hS => ?_)
      refine lv_aload_n hx hb dX0_reach_5 rfl (lv_at hl 0 rfl) ?_
      refine lv_iload_n hx hb dX0_reach_6 rfl (lv_at hl 1 rfl) ?_
      refine k_calli (rest := []) (q0 := 0) hC (c_X0_reachAt l dC dI cI cZ h a qph qgr qne qap qle qfu qpc qgd qri qnw qtk qsv qwa qgi qlo qtu  i (rq_in hpc hn c2)) (cwV 1 hts gX0_reach_X0_reachAt rfl rfl rfl hd_X0_reachAt ⟨Nat.le_of_ble_eq_true rfl, Nat.le_of_ble_eq_true rfl⟩) hK hP hD hS hA rfl rfl rfl hl.1 (Nat.le_of_ble_eq_true rfl) dX0_reach_7 rfl ⟨Nat.zero_le _, Nat.zero_le _⟩ (fun H locs hP hD hS => ?_)
      exact hret H locs 10 ls (X0_reachAt qph qgr qne qap qle qnw i) hS hP hD (by rw [X0_reach, if_pos c2]) dX0_reach_10
    · rw [X0_reach_T, if_neg c2] at hok
      exact absurd hok (by decide)
  exact hW _ _ hP hD hS
abbrev rmxX0_reach : Room := { frames := 7, cells := 1, slots := 6, locals := 103 }
set_option maxHeartbeats 4000000 in
set_option maxRecDepth 100000 in
theorem cx_X0_reach (l : Launch) (hl0 : l.stackTraces = false) (dC : Nat → ClassId) (dI : Nat → Nat → Nat) (cI cZ : ClassId) (h : Nat) (a : Nat → Nat) (qph : AR) (qgr : AR) (qne : AR) (qap : AR) (qle : AR) (qfu : AR) (qpc : Int32) (qgd : Int32) (qri : Int32) (qnw : Int32) (qtk : Int32) (qsv : Int32) (qwa : AR) (qgi : AR) (qlo : AR) (qtu : AR) (n : Nat) (i : Int32) (hpc : qpc = nI n) (hn : n ≤ 8) (hbad : ¬ X0_reach_T qpc n i = 0) : Kx l yX0_reach wsX0_reach rmxX0_reach dC dI cI cZ [.ref h, .int i] (xW cI cZ h a qph qgr qne qap qle qfu qpc qgd qri qnw qtk qsv qwa qgi qlo qtu) (fun E => (X0_reach_T qpc n i = 1 ∧ E = nIO)) := by
  refine k_enter_x (cc := cX0_reach) (maxL := 2) (ret := some .int) (by decide) rfl (Nat.le_of_ble_eq_true rfl) ?_
  intro p e s m below meth c A ls hC hlocks htab hK hNs hZ hP hD hS hA hl
  generalize List.toArray _ = args at hC ⊢
  obtain ⟨hx, hb, hml, hown, hts⟩ := id hC
  have hl : lv_has ls 2 [(0, .ref h), (1, .int i)] := hl
  have hP : va_P (dC, dI) vwCl (xW cI cZ h a qph qgr qne qap qle qfu qpc qgd qri qnw qtk qsv qwa qgi qlo qtu) s.heap := hP
  refine lv_aload_n hx hb dX0_reach_0 rfl (lv_at hl 0 rfl) ?_
  refine lv_iload_n hx hb dX0_reach_1 rfl (lv_at hl 1 rfl) ?_
  by_cases c2 : (X0_requirePoint_T qpc i) = 0
  · refine k_callv (rest := []) (q0 := 0) hC (c_X0_requirePoint l dC dI cI cZ h a qph qgr qne qap qle qfu qpc qgd qri qnw qtk qsv qwa qgi qlo qtu  i c2) (cwV 1 hts gX0_reach_X0_requirePoint rfl rfl rfl hd_X0_requirePoint ⟨Nat.le_of_ble_eq_true rfl, Nat.le_of_ble_eq_true rfl⟩) hK hP hD hS hA rfl rfl rfl hl.1 (Nat.le_of_ble_eq_true rfl) dX0_reach_2 rfl ⟨Nat.zero_le _, Nat.zero_le _⟩ (fun H locs hP hD hS => ?_)
    exact absurd (by rw [X0_reach_T, if_pos c2]) hbad
  · refine kx_callV (rest := []) (q0 := 0) hC (cx_X0_requirePoint l hl0 dC dI cI cZ h a qph qgr qne qap qle qfu qpc qgd qri qnw qtk qsv qwa qgi qlo qtu  i c2) (cwV 1 hts gX0_reach_X0_requirePoint rfl rfl rfl hd_X0_requirePoint ⟨Nat.le_of_ble_eq_true rfl, Nat.le_of_ble_eq_true rfl⟩) hK hNs hZ hP hD hS hA rfl rfl rfl hl.1 (Nat.le_of_ble_eq_true rfl) dX0_reach_2 rfl ⟨Nat.le_of_ble_eq_true rfl, Nat.le_of_ble_eq_true rfl⟩ (fun E ce q H locs hex hP hD hS hcell hv hcl => ?_)
    exact kx_out htab hlocks hcell hv hcl hS hP hD (⟨by rw [X0_reach_T, if_neg c2], hex.2⟩) (Nat.le_of_ble_eq_true rfl) (Nat.le_of_ble_eq_true rfl)
def X0_current_T (qpc : Int32) (n : Nat) (i : Int32) : Int32 := (if (X0_requirePoint_T qpc i) = 0 then 0 else 1)
def X0_current (qph : AR) (qgr : AR) (qne : AR) (qap : AR) (qle : AR) (qfu : AR) (qpc : Int32) (qgd : Int32) (qri : Int32) (qnw : Int32) (qwa : AR) (qgi : AR) (qlo : AR) (qtu : AR) (n : Nat) (i : Int32) : Int32 × AR × AR × AR × AR := (if (X0_requirePoint_T qpc i) = 0 then ((((X0_shareCurrents qph qgr qne qap qle qfu qgd qri qnw qwa qgi qlo qtu n).2.1) i.toNatClampNeg), ((X0_shareCurrents qph qgr qne qap qle qfu qgd qri qnw qwa qgi qlo qtu n).1), ((X0_shareCurrents qph qgr qne qap qle qfu qgd qri qnw qwa qgi qlo qtu n).2.1), ((X0_shareCurrents qph qgr qne qap qle qfu qgd qri qnw qwa qgi qlo qtu n).2.2.1), ((X0_shareCurrents qph qgr qne qap qle qfu qgd qri qnw qwa qgi qlo qtu n).2.2.2)) else (0, qwa, qgi, qlo, qtu))
abbrev rmX0_current : Room := { frames := 6, cells := 0, slots := 0, locals := 123 }
theorem hd_X0_current : yX0_current.cls = RX0 ∧ yX0_current.cls ≠ "java/lang/invoke/MethodHandle" ∧ yX0_current.cls ≠ "java/lang/invoke/VarHandle" ∧ (parseMethodDescriptor yX0_current.desc).map (fun d => d.parameters.length) = some 1 := by decide +kernel
set_option maxHeartbeats 4000000 in
set_option maxRecDepth 100000 in
theorem c_X0_current (l : Launch) (dC : Nat → ClassId) (dI : Nat → Nat → Nat) (cI cZ : ClassId) (h : Nat) (a : Nat → Nat) (qph : AR) (qgr : AR) (qne : AR) (qap : AR) (qle : AR) (qfu : AR) (qpc : Int32) (qgd : Int32) (qri : Int32) (qnw : Int32) (qtk : Int32) (qsv : Int32) (qwa : AR) (qgi : AR) (qlo : AR) (qtu : AR) (n : Nat) (i : Int32) (hpc : qpc = nI n) (hn : n ≤ 8) (hok : X0_current_T qpc n i = 0) : Ki l yX0_current wsX0_current rmX0_current dC dI cI cZ [.ref h, .int i] (xW cI cZ h a qph qgr qne qap qle qfu qpc qgd qri qnw qtk qsv qwa qgi qlo qtu) (xW cI cZ h a qph qgr qne qap qle qfu qpc qgd qri qnw qtk qsv ((X0_current qph qgr qne qap qle qfu qpc qgd qri qnw qwa qgi qlo qtu n i).2.1) ((X0_current qph qgr qne qap qle qfu qpc qgd qri qnw qwa qgi qlo qtu n i).2.2.1) ((X0_current qph qgr qne qap qle qfu qpc qgd qri qnw qwa qgi qlo qtu n i).2.2.2.1) ((X0_current qph qgr qne qap qle qfu qpc qgd qri qnw qwa qgi qlo qtu n i).2.2.2.2)) (X0_current qph qgr qne qap qle qfu qpc qgd qri qnw qwa qgi qlo qtu n i).1 := by
  refine k_enter_i (cc := cX0_current) (maxL := 2) (ret := some .int) (by decide) rfl (Nat.le_of_ble_eq_true rfl) ?_
  intro p e s m below meth c A ls hC hr hlocks hK hP hD hS hA hl
  generalize List.toArray _ = args at hC ⊢
  obtain ⟨hx, hb, hml, hown, hts⟩ := id hC
  have hret : ∀ (H : Heap) (locs : List Loc) (pc : Nat) (ls : Array Slot) (r : Int32), va_S A s.heap H locs → va_P (dC, dI) vwCl (xW cI cZ h a qph qgr qne qap qle qfu qpc qgd qri qnw qtk qsv ((X0_current qph qgr qne qap qle qfu qpc qgd qri qnw qwa qgi qlo qtu n i).2.1) ((X0_current qph qgr qne qap qle qfu qpc qgd qri qnw qwa qgi qlo qtu n i).2.2.1) ((X0_current qph qgr qne qap qle qfu qpc qgd qri qnw qwa qgi qlo qtu n i).2.2.2.1) ((X0_current qph qgr qne qap qle qfu qpc qgd qri qnw qwa qgi qlo qtu n i).2.2.2.2)) H → va_D A (xW cI cZ h a qph qgr qne qap qle qfu qpc qgd qri qnw qtk qsv ((X0_current qph qgr qne qap qle qfu qpc qgd qri qnw qwa qgi qlo qtu n i).2.1) ((X0_current qph qgr qne qap qle qfu qpc qgd qri qnw qwa qgi qlo qtu n i).2.2.1) ((X0_current qph qgr qne qap qle qfu qpc qgd qri qnw qwa qgi qlo qtu n i).2.2.2.1) ((X0_current qph qgr qne qap qle qfu qpc qgd qri qnw qwa qgi qlo qtu n i).2.2.2.2)) → r = (X0_current qph qgr qne qap qle qfu qpc qgd qri qnw qwa qgi qlo qtu n i).1 → decode cX0_current pc = .ok (.ireturn, 1) → W p l e rmX0_current s m args below meth c H locs 0 0 (MQ below (va_Qi (fun r (_ : Unit) => r = (X0_current qph qgr qne qap qle qfu qpc qgd qri qnw qwa qgi qlo qtu n i).1) (kBeh dC dI A (xW cI cZ h a qph qgr qne qap qle qfu qpc qgd qri qnw qtk qsv ((X0_current qph qgr qne qap qle qfu qpc qgd qri qnw qwa qgi qlo qtu n i).2.1) ((X0_current qph qgr qne qap qle qfu qpc qgd qri qnw qwa qgi qlo qtu n i).2.2.1) ((X0_current qph qgr qne qap qle qfu qpc qgd qri qnw qwa qgi qlo qtu n i).2.2.2.1) ((X0_current qph qgr qne qap qle qfu qpc qgd qri qnw qwa qgi qlo qtu n i).2.2.2.2))) A) args s 0 0 A) (F0 m pc ls [.int r]) := fun H locs pc ls r hS hP hD hv d => k_iret hx hb hr hlocks hS hP hD hv d
  generalize MQ below _ _ _ _ _ _ = Q at hret ⊢
  have hin : ∀ w ∈ wsX00, w ∈ wsX0_current := by decide +kernel
  have hw0 := hts (.fieldLink RX0 28 "ChargePark" "given" "[I") (by decide +kernel)
  have hl : lv_has ls 2 [(0, .ref h), (1, .int i)] := hl
  have hP : va_P (dC, dI) vwCl (xW cI cZ h a qph qgr qne qap qle qfu qpc qgd qri qnw qtk qsv qwa qgi qlo qtu) s.heap := hP
  have hW : ∀ (H : Heap) (locs : List Loc), va_P (dC, dI) vwCl (xW cI cZ h a qph qgr qne qap qle qfu qpc qgd qri qnw qtk qsv qwa qgi qlo qtu) H → va_D A (xW cI cZ h a qph qgr qne qap qle qfu qpc qgd qri qnw qtk qsv qwa qgi qlo qtu) → va_S A s.heap H locs → W p l e rmX0_current s m args below meth c H locs 0 0 Q (F0 m 0 ls []) := by
    intro H locs hP hD hS
    refine lv_aload_n hx hb dX0_current_0 rfl (lv_at hl 0 rfl) ?_
    refine lv_iload_n hx hb dX0_current_1 rfl (lv_at hl 1 rfl) ?_
    by_cases c2 : (X0_requirePoint_T qpc i) = 0
    · refine k_callv (rest := []) (q0 := 0) hC (c_X0_requirePoint l dC dI cI cZ h a qph qgr qne qap qle qfu qpc qgd qri qnw qtk qsv qwa qgi qlo qtu  i c2) (cwV 1 hts gX0_current_X0_requirePoint rfl rfl rfl hd_X0_requirePoint ⟨Nat.le_of_ble_eq_true rfl, Nat.le_of_ble_eq_true rfl⟩) hK hP hD hS hA rfl rfl rfl hl.1 (Nat.le_of_ble_eq_true rfl) dX0_current_2 rfl ⟨Nat.zero_le _, Nat.zero_le _⟩ (fun H locs hP hD hS => ?_)
      refine lv_aload_n hx hb dX0_current_5 rfl (lv_at hl 0 rfl) ?_
      refine k_callv (rest := []) (q0 := 0) hC (c_X0_shareCurrents l dC dI cI cZ h a qph qgr qne qap qle qfu qpc qgd qri qnw qtk qsv qwa qgi qlo qtu n  hpc hn) (cwV 0 hts gX0_current_X0_shareCurrents rfl rfl rfl hd_X0_shareCurrents ⟨Nat.le_of_ble_eq_true rfl, Nat.le_of_ble_eq_true rfl⟩) hK hP hD hS hA rfl rfl rfl hl.1 (Nat.le_of_ble_eq_true rfl) dX0_current_6 rfl ⟨Nat.zero_le _, Nat.zero_le _⟩ (fun H locs hP hD hS => ?_)
      obtain ⟨z1, hz1⟩ : ∃ z : AR, z = ((X0_shareCurrents qph qgr qne qap qle qfu qgd qri qnw qwa qgi qlo qtu n).1) := ⟨_, rfl⟩
      rw [← hz1] at hP hD
      obtain ⟨z2, hz2⟩ : ∃ z : AR, z = ((X0_shareCurrents qph qgr qne qap qle qfu qgd qri qnw qwa qgi qlo qtu n).2.1) := ⟨_, rfl⟩
      rw [← hz2] at hP hD
      obtain ⟨z3, hz3⟩ : ∃ z : AR, z = ((X0_shareCurrents qph qgr qne qap qle qfu qgd qri qnw qwa qgi qlo qtu n).2.2.1) := ⟨_, rfl⟩
      rw [← hz3] at hP hD
      obtain ⟨z4, hz4⟩ : ∃ z : AR, z = ((X0_shareCurrents qph qgr qne qap qle qfu qgd qri qnw qwa qgi qlo qtu n).2.2.2) := ⟨_, rfl⟩
      rw [← hz4] at hP hD
      have hP : va_P (dC, dI) vwCl (xW cI cZ h a qph qgr qne qap qle qfu qpc qgd qri qnw qtk qsv z1 z2 z3 z4) H := hP
      have hD : va_D A (xW cI cZ h a qph qgr qne qap qle qfu qpc qgd qri qnw qtk qsv z1 z2 z3 z4) := hD
      refine lv_aload_n hx hb dX0_current_9 rfl (lv_at hl 0 rfl) ?_
      refine va_get (D := (dC, dI)) (ci := 0) (v := .ref (a 13)) (C := RX0) (T := TX0) (N := 16) hx hb hts hin hown hK hP 0 rfl rfl 13 (by decide) hw0 (fun _ h9 => h9) rfl dX0_current_10 ?_
      refine lv_iload_n hx hb dX0_current_13 rfl (lv_at hl 1 rfl) ?_
      refine va_iald (f := z2) hx hb hK hP 8 0 rfl rfl (rq_in hpc hn c2) dX0_current_14 ?_
      have hP9 := hP; have hD9 := hD
      subst hz1 hz2 hz3 hz4
      have hP8 : va_P (dC, dI) vwCl (xW cI cZ h a qph qgr qne qap qle qfu qpc qgd qri qnw qtk qsv ((X0_current qph qgr qne qap qle qfu qpc qgd qri qnw qwa qgi qlo qtu n i).2.1) ((X0_current qph qgr qne qap qle qfu qpc qgd qri qnw qwa qgi qlo qtu n i).2.2.1) ((X0_current qph qgr qne qap qle qfu qpc qgd qri qnw qwa qgi qlo qtu n i).2.2.2.1) ((X0_current qph qgr qne qap qle qfu qpc qgd qri qnw qwa qgi qlo qtu n i).2.2.2.2)) H := by rw [X0_current, if_pos c2]; exact hP9
      have hD8 : va_D A (xW cI cZ h a qph qgr qne qap qle qfu qpc qgd qri qnw qtk qsv ((X0_current qph qgr qne qap qle qfu qpc qgd qri qnw qwa qgi qlo qtu n i).2.1) ((X0_current qph qgr qne qap qle qfu qpc qgd qri qnw qwa qgi qlo qtu n i).2.2.1) ((X0_current qph qgr qne qap qle qfu qpc qgd qri qnw qwa qgi qlo qtu n i).2.2.2.1) ((X0_current qph qgr qne qap qle qfu qpc qgd qri qnw qwa qgi qlo qtu n i).2.2.2.2)) := by rw [X0_current, if_pos c2]; exact hD9
      exact hret H locs 15 ls (((X0_shareCurrents qph qgr qne qap qle qfu qgd qri qnw qwa qgi qlo qtu n).2.1) i.toNatClampNeg) hS hP8 hD8 (by rw [X0_current, if_pos c2]) dX0_current_15
    · rw [X0_current_T, if_neg c2] at hok
      exact absurd hok (by decide)
  exact hW _ _ hP hD hS
abbrev rmxX0_current : Room := { frames := 7, cells := 1, slots := 6, locals := 103 }
set_option maxHeartbeats 4000000 in
set_option maxRecDepth 100000 in
theorem cx_X0_current (l : Launch) (hl0 : l.stackTraces = false) (dC : Nat → ClassId) (dI : Nat → Nat → Nat) (cI cZ : ClassId) (h : Nat) (a : Nat → Nat) (qph : AR) (qgr : AR) (qne : AR) (qap : AR) (qle : AR) (qfu : AR) (qpc : Int32) (qgd : Int32) (qri : Int32) (qnw : Int32) (qtk : Int32) (qsv : Int32) (qwa : AR) (qgi : AR) (qlo : AR) (qtu : AR) (n : Nat) (i : Int32) (hpc : qpc = nI n) (hn : n ≤ 8) (hbad : ¬ X0_current_T qpc n i = 0) : Kx l yX0_current wsX0_current rmxX0_current dC dI cI cZ [.ref h, .int i] (xW cI cZ h a qph qgr qne qap qle qfu qpc qgd qri qnw qtk qsv qwa qgi qlo qtu) (fun E => (X0_current_T qpc n i = 1 ∧ E = nIO)) := by
  refine k_enter_x (cc := cX0_current) (maxL := 2) (ret := some .int) (by decide) rfl (Nat.le_of_ble_eq_true rfl) ?_
  intro p e s m below meth c A ls hC hlocks htab hK hNs hZ hP hD hS hA hl
  generalize List.toArray _ = args at hC ⊢
  obtain ⟨hx, hb, hml, hown, hts⟩ := id hC
  have hl : lv_has ls 2 [(0, .ref h), (1, .int i)] := hl
  have hP : va_P (dC, dI) vwCl (xW cI cZ h a qph qgr qne qap qle qfu qpc qgd qri qnw qtk qsv qwa qgi qlo qtu) s.heap := hP
  refine lv_aload_n hx hb dX0_current_0 rfl (lv_at hl 0 rfl) ?_
  refine lv_iload_n hx hb dX0_current_1 rfl (lv_at hl 1 rfl) ?_
  by_cases c2 : (X0_requirePoint_T qpc i) = 0
  · refine k_callv (rest := []) (q0 := 0) hC (c_X0_requirePoint l dC dI cI cZ h a qph qgr qne qap qle qfu qpc qgd qri qnw qtk qsv qwa qgi qlo qtu  i c2) (cwV 1 hts gX0_current_X0_requirePoint rfl rfl rfl hd_X0_requirePoint ⟨Nat.le_of_ble_eq_true rfl, Nat.le_of_ble_eq_true rfl⟩) hK hP hD hS hA rfl rfl rfl hl.1 (Nat.le_of_ble_eq_true rfl) dX0_current_2 rfl ⟨Nat.zero_le _, Nat.zero_le _⟩ (fun H locs hP hD hS => ?_)
    exact absurd (by rw [X0_current_T, if_pos c2]) hbad
  · refine kx_callV (rest := []) (q0 := 0) hC (cx_X0_requirePoint l hl0 dC dI cI cZ h a qph qgr qne qap qle qfu qpc qgd qri qnw qtk qsv qwa qgi qlo qtu  i c2) (cwV 1 hts gX0_current_X0_requirePoint rfl rfl rfl hd_X0_requirePoint ⟨Nat.le_of_ble_eq_true rfl, Nat.le_of_ble_eq_true rfl⟩) hK hNs hZ hP hD hS hA rfl rfl rfl hl.1 (Nat.le_of_ble_eq_true rfl) dX0_current_2 rfl ⟨Nat.le_of_ble_eq_true rfl, Nat.le_of_ble_eq_true rfl⟩ (fun E ce q H locs hex hP hD hS hcell hv hcl => ?_)
    exact kx_out htab hlocks hcell hv hcl hS hP hD (⟨by rw [X0_current_T, if_neg c2], hex.2⟩) (Nat.le_of_ble_eq_true rfl) (Nat.le_of_ble_eq_true rfl)
def X0_load_T (n : Nat) (f : Int32) : Int32 := (if (X0_requirePhase_T f) = 0 then 0 else 1)
def X0_load (qph : AR) (qgr : AR) (qne : AR) (qap : AR) (qle : AR) (qfu : AR) (qgd : Int32) (qri : Int32) (qnw : Int32) (qwa : AR) (qgi : AR) (qlo : AR) (qtu : AR) (n : Nat) (f : Int32) : Int32 × AR × AR × AR × AR := (if (X0_requirePhase_T f) = 0 then ((((X0_shareCurrents qph qgr qne qap qle qfu qgd qri qnw qwa qgi qlo qtu n).2.2.1) f.toNatClampNeg), ((X0_shareCurrents qph qgr qne qap qle qfu qgd qri qnw qwa qgi qlo qtu n).1), ((X0_shareCurrents qph qgr qne qap qle qfu qgd qri qnw qwa qgi qlo qtu n).2.1), ((X0_shareCurrents qph qgr qne qap qle qfu qgd qri qnw qwa qgi qlo qtu n).2.2.1), ((X0_shareCurrents qph qgr qne qap qle qfu qgd qri qnw qwa qgi qlo qtu n).2.2.2)) else (0, qwa, qgi, qlo, qtu))
abbrev rmX0_load : Room := { frames := 6, cells := 0, slots := 0, locals := 123 }
theorem hd_X0_load : yX0_load.cls = RX0 ∧ yX0_load.cls ≠ "java/lang/invoke/MethodHandle" ∧ yX0_load.cls ≠ "java/lang/invoke/VarHandle" ∧ (parseMethodDescriptor yX0_load.desc).map (fun d => d.parameters.length) = some 1 := by decide +kernel
set_option maxHeartbeats 4000000 in
set_option maxRecDepth 100000 in
theorem c_X0_load (l : Launch) (dC : Nat → ClassId) (dI : Nat → Nat → Nat) (cI cZ : ClassId) (h : Nat) (a : Nat → Nat) (qph : AR) (qgr : AR) (qne : AR) (qap : AR) (qle : AR) (qfu : AR) (qpc : Int32) (qgd : Int32) (qri : Int32) (qnw : Int32) (qtk : Int32) (qsv : Int32) (qwa : AR) (qgi : AR) (qlo : AR) (qtu : AR) (n : Nat) (f : Int32) (hpc : qpc = nI n) (hn : n ≤ 8) (hok : X0_load_T n f = 0) : Ki l yX0_load wsX0_load rmX0_load dC dI cI cZ [.ref h, .int f] (xW cI cZ h a qph qgr qne qap qle qfu qpc qgd qri qnw qtk qsv qwa qgi qlo qtu) (xW cI cZ h a qph qgr qne qap qle qfu qpc qgd qri qnw qtk qsv ((X0_load qph qgr qne qap qle qfu qgd qri qnw qwa qgi qlo qtu n f).2.1) ((X0_load qph qgr qne qap qle qfu qgd qri qnw qwa qgi qlo qtu n f).2.2.1) ((X0_load qph qgr qne qap qle qfu qgd qri qnw qwa qgi qlo qtu n f).2.2.2.1) ((X0_load qph qgr qne qap qle qfu qgd qri qnw qwa qgi qlo qtu n f).2.2.2.2)) (X0_load qph qgr qne qap qle qfu qgd qri qnw qwa qgi qlo qtu n f).1 := by
  refine k_enter_i (cc := cX0_load) (maxL := 2) (ret := some .int) (by decide) rfl (Nat.le_of_ble_eq_true rfl) ?_
  intro p e s m below meth c A ls hC hr hlocks hK hP hD hS hA hl
  generalize List.toArray _ = args at hC ⊢
  obtain ⟨hx, hb, hml, hown, hts⟩ := id hC
  have hret : ∀ (H : Heap) (locs : List Loc) (pc : Nat) (ls : Array Slot) (r : Int32), va_S A s.heap H locs → va_P (dC, dI) vwCl (xW cI cZ h a qph qgr qne qap qle qfu qpc qgd qri qnw qtk qsv ((X0_load qph qgr qne qap qle qfu qgd qri qnw qwa qgi qlo qtu n f).2.1) ((X0_load qph qgr qne qap qle qfu qgd qri qnw qwa qgi qlo qtu n f).2.2.1) ((X0_load qph qgr qne qap qle qfu qgd qri qnw qwa qgi qlo qtu n f).2.2.2.1) ((X0_load qph qgr qne qap qle qfu qgd qri qnw qwa qgi qlo qtu n f).2.2.2.2)) H → va_D A (xW cI cZ h a qph qgr qne qap qle qfu qpc qgd qri qnw qtk qsv ((X0_load qph qgr qne qap qle qfu qgd qri qnw qwa qgi qlo qtu n f).2.1) ((X0_load qph qgr qne qap qle qfu qgd qri qnw qwa qgi qlo qtu n f).2.2.1) ((X0_load qph qgr qne qap qle qfu qgd qri qnw qwa qgi qlo qtu n f).2.2.2.1) ((X0_load qph qgr qne qap qle qfu qgd qri qnw qwa qgi qlo qtu n f).2.2.2.2)) → r = (X0_load qph qgr qne qap qle qfu qgd qri qnw qwa qgi qlo qtu n f).1 → decode cX0_load pc = .ok (.ireturn, 1) → W p l e rmX0_load s m args below meth c H locs 0 0 (MQ below (va_Qi (fun r (_ : Unit) => r = (X0_load qph qgr qne qap qle qfu qgd qri qnw qwa qgi qlo qtu n f).1) (kBeh dC dI A (xW cI cZ h a qph qgr qne qap qle qfu qpc qgd qri qnw qtk qsv ((X0_load qph qgr qne qap qle qfu qgd qri qnw qwa qgi qlo qtu n f).2.1) ((X0_load qph qgr qne qap qle qfu qgd qri qnw qwa qgi qlo qtu n f).2.2.1) ((X0_load qph qgr qne qap qle qfu qgd qri qnw qwa qgi qlo qtu n f).2.2.2.1) ((X0_load qph qgr qne qap qle qfu qgd qri qnw qwa qgi qlo qtu n f).2.2.2.2))) A) args s 0 0 A) (F0 m pc ls [.int r]) := fun H locs pc ls r hS hP hD hv d => k_iret hx hb hr hlocks hS hP hD hv d
  generalize MQ below _ _ _ _ _ _ = Q at hret ⊢
  have hin : ∀ w ∈ wsX00, w ∈ wsX0_load := by decide +kernel
  have hw0 := hts (.fieldLink RX0 34 "ChargePark" "loadOf" "[I") (by decide +kernel)
  have hl : lv_has ls 2 [(0, .ref h), (1, .int f)] := hl
  have hP : va_P (dC, dI) vwCl (xW cI cZ h a qph qgr qne qap qle qfu qpc qgd qri qnw qtk qsv qwa qgi qlo qtu) s.heap := hP
  have hW : ∀ (H : Heap) (locs : List Loc), va_P (dC, dI) vwCl (xW cI cZ h a qph qgr qne qap qle qfu qpc qgd qri qnw qtk qsv qwa qgi qlo qtu) H → va_D A (xW cI cZ h a qph qgr qne qap qle qfu qpc qgd qri qnw qtk qsv qwa qgi qlo qtu) → va_S A s.heap H locs → W p l e rmX0_load s m args below meth c H locs 0 0 Q (F0 m 0 ls []) := by
    intro H locs hP hD hS
    refine lv_iload_n hx hb dX0_load_0 rfl (lv_at hl 1 rfl) ?_
    by_cases c1 : (X0_requirePhase_T f) = 0
    · refine k_callsv (rest := []) (As := [.int f]) hC (c_X0_requirePhase l dC dI cI cZ (xW cI cZ h a qph qgr qne qap qle qfu qpc qgd qri qnw qtk qsv qwa qgi qlo qtu) f c1) (va_cwS 1 hts gX0_load_X0_requirePhase rfl rfl rfl hd_X0_requirePhase ⟨Nat.le_of_ble_eq_true rfl, Nat.le_of_ble_eq_true rfl⟩) hK hP hD hS hA rfl hl.1 (Nat.le_of_ble_eq_true rfl) dX0_load_1 rfl ⟨Nat.zero_le _, Nat.zero_le _⟩ (fun H locs hP hD hS => ?_)
      refine lv_aload_n hx hb dX0_load_4 rfl (lv_at hl 0 rfl) ?_
      refine k_callv (rest := []) (q0 := 0) hC (c_X0_shareCurrents l dC dI cI cZ h a qph qgr qne qap qle qfu qpc qgd qri qnw qtk qsv qwa qgi qlo qtu n  hpc hn) (cwV 0 hts gX0_load_X0_shareCurrents rfl rfl rfl hd_X0_shareCurrents ⟨Nat.le_of_ble_eq_true rfl, Nat.le_of_ble_eq_true rfl⟩) hK hP hD hS hA rfl rfl rfl hl.1 (Nat.le_of_ble_eq_true rfl) dX0_load_5 rfl ⟨Nat.zero_le _, Nat.zero_le _⟩ (fun H locs hP hD hS => ?_)
      obtain ⟨z1, hz1⟩ : ∃ z : AR, z = ((X0_shareCurrents qph qgr qne qap qle qfu qgd qri qnw qwa qgi qlo qtu n).1) := ⟨_, rfl⟩
      rw [← hz1] at hP hD
      obtain ⟨z2, hz2⟩ : ∃ z : AR, z = ((X0_shareCurrents qph qgr qne qap qle qfu qgd qri qnw qwa qgi qlo qtu n).2.1) := ⟨_, rfl⟩
      rw [← hz2] at hP hD
      obtain ⟨z3, hz3⟩ : ∃ z : AR, z = ((X0_shareCurrents qph qgr qne qap qle qfu qgd qri qnw qwa qgi qlo qtu n).2.2.1) := ⟨_, rfl⟩
      rw [← hz3] at hP hD
      obtain ⟨z4, hz4⟩ : ∃ z : AR, z = ((X0_shareCurrents qph qgr qne qap qle qfu qgd qri qnw qwa qgi qlo qtu n).2.2.2) := ⟨_, rfl⟩
      rw [← hz4] at hP hD
      have hP : va_P (dC, dI) vwCl (xW cI cZ h a qph qgr qne qap qle qfu qpc qgd qri qnw qtk qsv z1 z2 z3 z4) H := hP
      have hD : va_D A (xW cI cZ h a qph qgr qne qap qle qfu qpc qgd qri qnw qtk qsv z1 z2 z3 z4) := hD
      refine lv_aload_n hx hb dX0_load_8 rfl (lv_at hl 0 rfl) ?_
      refine va_get (D := (dC, dI)) (ci := 0) (v := .ref (a 14)) (C := RX0) (T := TX0) (N := 16) hx hb hts hin hown hK hP 0 rfl rfl 14 (by decide) hw0 (fun _ h9 => h9) rfl dX0_load_9 ?_
      refine lv_iload_n hx hb dX0_load_12 rfl (lv_at hl 1 rfl) ?_
      refine va_iald (f := z3) hx hb hK hP 9 0 rfl rfl (rqp_in c1) dX0_load_13 ?_
      have hP9 := hP; have hD9 := hD
      subst hz1 hz2 hz3 hz4
      have hP8 : va_P (dC, dI) vwCl (xW cI cZ h a qph qgr qne qap qle qfu qpc qgd qri qnw qtk qsv ((X0_load qph qgr qne qap qle qfu qgd qri qnw qwa qgi qlo qtu n f).2.1) ((X0_load qph qgr qne qap qle qfu qgd qri qnw qwa qgi qlo qtu n f).2.2.1) ((X0_load qph qgr qne qap qle qfu qgd qri qnw qwa qgi qlo qtu n f).2.2.2.1) ((X0_load qph qgr qne qap qle qfu qgd qri qnw qwa qgi qlo qtu n f).2.2.2.2)) H := by rw [X0_load, if_pos c1]; exact hP9
      have hD8 : va_D A (xW cI cZ h a qph qgr qne qap qle qfu qpc qgd qri qnw qtk qsv ((X0_load qph qgr qne qap qle qfu qgd qri qnw qwa qgi qlo qtu n f).2.1) ((X0_load qph qgr qne qap qle qfu qgd qri qnw qwa qgi qlo qtu n f).2.2.1) ((X0_load qph qgr qne qap qle qfu qgd qri qnw qwa qgi qlo qtu n f).2.2.2.1) ((X0_load qph qgr qne qap qle qfu qgd qri qnw qwa qgi qlo qtu n f).2.2.2.2)) := by rw [X0_load, if_pos c1]; exact hD9
      exact hret H locs 14 ls (((X0_shareCurrents qph qgr qne qap qle qfu qgd qri qnw qwa qgi qlo qtu n).2.2.1) f.toNatClampNeg) hS hP8 hD8 (by rw [X0_load, if_pos c1]) dX0_load_14
    · rw [X0_load_T, if_neg c1] at hok
      exact absurd hok (by decide)
  exact hW _ _ hP hD hS
abbrev rmxX0_load : Room := { frames := 7, cells := 1, slots := 6, locals := 102 }
set_option maxHeartbeats 4000000 in
set_option maxRecDepth 100000 in
theorem cx_X0_load (l : Launch) (hl0 : l.stackTraces = false) (dC : Nat → ClassId) (dI : Nat → Nat → Nat) (cI cZ : ClassId) (h : Nat) (a : Nat → Nat) (qph : AR) (qgr : AR) (qne : AR) (qap : AR) (qle : AR) (qfu : AR) (qpc : Int32) (qgd : Int32) (qri : Int32) (qnw : Int32) (qtk : Int32) (qsv : Int32) (qwa : AR) (qgi : AR) (qlo : AR) (qtu : AR) (n : Nat) (f : Int32) (hpc : qpc = nI n) (hn : n ≤ 8) (hbad : ¬ X0_load_T n f = 0) : Kx l yX0_load wsX0_load rmxX0_load dC dI cI cZ [.ref h, .int f] (xW cI cZ h a qph qgr qne qap qle qfu qpc qgd qri qnw qtk qsv qwa qgi qlo qtu) (fun E => (X0_load_T n f = 1 ∧ E = nIA)) := by
  refine k_enter_x (cc := cX0_load) (maxL := 2) (ret := some .int) (by decide) rfl (Nat.le_of_ble_eq_true rfl) ?_
  intro p e s m below meth c A ls hC hlocks htab hK hNs hZ hP hD hS hA hl
  generalize List.toArray _ = args at hC ⊢
  obtain ⟨hx, hb, hml, hown, hts⟩ := id hC
  have hl : lv_has ls 2 [(0, .ref h), (1, .int f)] := hl
  have hP : va_P (dC, dI) vwCl (xW cI cZ h a qph qgr qne qap qle qfu qpc qgd qri qnw qtk qsv qwa qgi qlo qtu) s.heap := hP
  refine lv_iload_n hx hb dX0_load_0 rfl (lv_at hl 1 rfl) ?_
  by_cases c1 : (X0_requirePhase_T f) = 0
  · refine k_callsv (rest := []) (As := [.int f]) hC (c_X0_requirePhase l dC dI cI cZ (xW cI cZ h a qph qgr qne qap qle qfu qpc qgd qri qnw qtk qsv qwa qgi qlo qtu) f c1) (va_cwS 1 hts gX0_load_X0_requirePhase rfl rfl rfl hd_X0_requirePhase ⟨Nat.le_of_ble_eq_true rfl, Nat.le_of_ble_eq_true rfl⟩) hK hP hD hS hA rfl hl.1 (Nat.le_of_ble_eq_true rfl) dX0_load_1 rfl ⟨Nat.zero_le _, Nat.zero_le _⟩ (fun H locs hP hD hS => ?_)
    exact absurd (by rw [X0_load_T, if_pos c1]) hbad
  · refine kx_callS (rest := []) (As := [.int f]) hC (cx_X0_requirePhase l hl0 dC dI cI cZ (xW cI cZ h a qph qgr qne qap qle qfu qpc qgd qri qnw qtk qsv qwa qgi qlo qtu) f c1) (va_cwS 1 hts gX0_load_X0_requirePhase rfl rfl rfl hd_X0_requirePhase ⟨Nat.le_of_ble_eq_true rfl, Nat.le_of_ble_eq_true rfl⟩) hK hNs hZ hP hD hS hA rfl hl.1 (Nat.le_of_ble_eq_true rfl) dX0_load_1 rfl ⟨Nat.le_of_ble_eq_true rfl, Nat.le_of_ble_eq_true rfl⟩ (fun E ce q H locs hex hP hD hS hcell hv hcl => ?_)
    exact kx_out htab hlocks hcell hv hcl hS hP hD (⟨by rw [X0_load_T, if_neg c1], hex.2⟩) (Nat.le_of_ble_eq_true rfl) (Nat.le_of_ble_eq_true rfl)
def X0_imbalance (qph : AR) (qgr : AR) (qne : AR) (qap : AR) (qle : AR) (qfu : AR) (qgd : Int32) (qri : Int32) (qnw : Int32) (qwa : AR) (qgi : AR) (qlo : AR) (qtu : AR) (n : Nat) : Int32 × AR × AR × AR × AR := ((X0_differenceOfLoads ((X0_shareCurrents qph qgr qne qap qle qfu qgd qri qnw qwa qgi qlo qtu n).2.2.1)), ((X0_shareCurrents qph qgr qne qap qle qfu qgd qri qnw qwa qgi qlo qtu n).1), ((X0_shareCurrents qph qgr qne qap qle qfu qgd qri qnw qwa qgi qlo qtu n).2.1), ((X0_shareCurrents qph qgr qne qap qle qfu qgd qri qnw qwa qgi qlo qtu n).2.2.1), ((X0_shareCurrents qph qgr qne qap qle qfu qgd qri qnw qwa qgi qlo qtu n).2.2.2))
abbrev rmX0_imbalance : Room := { frames := 6, cells := 0, slots := 0, locals := 123 }
theorem hd_X0_imbalance : yX0_imbalance.cls = RX0 ∧ yX0_imbalance.cls ≠ "java/lang/invoke/MethodHandle" ∧ yX0_imbalance.cls ≠ "java/lang/invoke/VarHandle" ∧ (parseMethodDescriptor yX0_imbalance.desc).map (fun d => d.parameters.length) = some 0 := by decide +kernel
set_option maxHeartbeats 4000000 in
set_option maxRecDepth 100000 in
theorem c_X0_imbalance (l : Launch) (dC : Nat → ClassId) (dI : Nat → Nat → Nat) (cI cZ : ClassId) (h : Nat) (a : Nat → Nat) (qph : AR) (qgr : AR) (qne : AR) (qap : AR) (qle : AR) (qfu : AR) (qpc : Int32) (qgd : Int32) (qri : Int32) (qnw : Int32) (qtk : Int32) (qsv : Int32) (qwa : AR) (qgi : AR) (qlo : AR) (qtu : AR) (n : Nat) (hpc : qpc = nI n) (hn : n ≤ 8) : Ki l yX0_imbalance wsX0_imbalance rmX0_imbalance dC dI cI cZ [.ref h] (xW cI cZ h a qph qgr qne qap qle qfu qpc qgd qri qnw qtk qsv qwa qgi qlo qtu) (xW cI cZ h a qph qgr qne qap qle qfu qpc qgd qri qnw qtk qsv ((X0_imbalance qph qgr qne qap qle qfu qgd qri qnw qwa qgi qlo qtu n).2.1) ((X0_imbalance qph qgr qne qap qle qfu qgd qri qnw qwa qgi qlo qtu n).2.2.1) ((X0_imbalance qph qgr qne qap qle qfu qgd qri qnw qwa qgi qlo qtu n).2.2.2.1) ((X0_imbalance qph qgr qne qap qle qfu qgd qri qnw qwa qgi qlo qtu n).2.2.2.2)) (X0_imbalance qph qgr qne qap qle qfu qgd qri qnw qwa qgi qlo qtu n).1 := by
  refine k_enter_i (cc := cX0_imbalance) (maxL := 1) (ret := some .int) (by decide) rfl (Nat.le_of_ble_eq_true rfl) ?_
  intro p e s m below meth c A ls hC hr hlocks hK hP hD hS hA hl
  generalize List.toArray _ = args at hC ⊢
  obtain ⟨hx, hb, hml, hown, hts⟩ := id hC
  have hret : ∀ (H : Heap) (locs : List Loc) (pc : Nat) (ls : Array Slot) (r : Int32), va_S A s.heap H locs → va_P (dC, dI) vwCl (xW cI cZ h a qph qgr qne qap qle qfu qpc qgd qri qnw qtk qsv ((X0_imbalance qph qgr qne qap qle qfu qgd qri qnw qwa qgi qlo qtu n).2.1) ((X0_imbalance qph qgr qne qap qle qfu qgd qri qnw qwa qgi qlo qtu n).2.2.1) ((X0_imbalance qph qgr qne qap qle qfu qgd qri qnw qwa qgi qlo qtu n).2.2.2.1) ((X0_imbalance qph qgr qne qap qle qfu qgd qri qnw qwa qgi qlo qtu n).2.2.2.2)) H → va_D A (xW cI cZ h a qph qgr qne qap qle qfu qpc qgd qri qnw qtk qsv ((X0_imbalance qph qgr qne qap qle qfu qgd qri qnw qwa qgi qlo qtu n).2.1) ((X0_imbalance qph qgr qne qap qle qfu qgd qri qnw qwa qgi qlo qtu n).2.2.1) ((X0_imbalance qph qgr qne qap qle qfu qgd qri qnw qwa qgi qlo qtu n).2.2.2.1) ((X0_imbalance qph qgr qne qap qle qfu qgd qri qnw qwa qgi qlo qtu n).2.2.2.2)) → r = (X0_imbalance qph qgr qne qap qle qfu qgd qri qnw qwa qgi qlo qtu n).1 → decode cX0_imbalance pc = .ok (.ireturn, 1) → W p l e rmX0_imbalance s m args below meth c H locs 0 0 (MQ below (va_Qi (fun r (_ : Unit) => r = (X0_imbalance qph qgr qne qap qle qfu qgd qri qnw qwa qgi qlo qtu n).1) (kBeh dC dI A (xW cI cZ h a qph qgr qne qap qle qfu qpc qgd qri qnw qtk qsv ((X0_imbalance qph qgr qne qap qle qfu qgd qri qnw qwa qgi qlo qtu n).2.1) ((X0_imbalance qph qgr qne qap qle qfu qgd qri qnw qwa qgi qlo qtu n).2.2.1) ((X0_imbalance qph qgr qne qap qle qfu qgd qri qnw qwa qgi qlo qtu n).2.2.2.1) ((X0_imbalance qph qgr qne qap qle qfu qgd qri qnw qwa qgi qlo qtu n).2.2.2.2))) A) args s 0 0 A) (F0 m pc ls [.int r]) := fun H locs pc ls r hS hP hD hv d => k_iret hx hb hr hlocks hS hP hD hv d
  generalize MQ below _ _ _ _ _ _ = Q at hret ⊢
  have hl : lv_has ls 1 [(0, .ref h)] := hl
  have hP : va_P (dC, dI) vwCl (xW cI cZ h a qph qgr qne qap qle qfu qpc qgd qri qnw qtk qsv qwa qgi qlo qtu) s.heap := hP
  have hW : ∀ (H : Heap) (locs : List Loc), va_P (dC, dI) vwCl (xW cI cZ h a qph qgr qne qap qle qfu qpc qgd qri qnw qtk qsv qwa qgi qlo qtu) H → va_D A (xW cI cZ h a qph qgr qne qap qle qfu qpc qgd qri qnw qtk qsv qwa qgi qlo qtu) → va_S A s.heap H locs → W p l e rmX0_imbalance s m args below meth c H locs 0 0 Q (F0 m 0 ls []) := by
    intro H locs hP hD hS
    refine lv_aload_n hx hb dX0_imbalance_0 rfl (lv_at hl 0 rfl) ?_
    refine k_callv (rest := []) (q0 := 0) hC (c_X0_shareCurrents l dC dI cI cZ h a qph qgr qne qap qle qfu qpc qgd qri qnw qtk qsv qwa qgi qlo qtu n  hpc hn) (cwV 0 hts gX0_imbalance_X0_shareCurrents rfl rfl rfl hd_X0_shareCurrents ⟨Nat.le_of_ble_eq_true rfl, Nat.le_of_ble_eq_true rfl⟩) hK hP hD hS hA rfl rfl rfl hl.1 (Nat.le_of_ble_eq_true rfl) dX0_imbalance_1 rfl ⟨Nat.zero_le _, Nat.zero_le _⟩ (fun H locs hP hD hS => ?_)
    obtain ⟨z1, hz1⟩ : ∃ z : AR, z = ((X0_shareCurrents qph qgr qne qap qle qfu qgd qri qnw qwa qgi qlo qtu n).1) := ⟨_, rfl⟩
    rw [← hz1] at hP hD
    obtain ⟨z2, hz2⟩ : ∃ z : AR, z = ((X0_shareCurrents qph qgr qne qap qle qfu qgd qri qnw qwa qgi qlo qtu n).2.1) := ⟨_, rfl⟩
    rw [← hz2] at hP hD
    obtain ⟨z3, hz3⟩ : ∃ z : AR, z = ((X0_shareCurrents qph qgr qne qap qle qfu qgd qri qnw qwa qgi qlo qtu n).2.2.1) := ⟨_, rfl⟩
    rw [← hz3] at hP hD
    obtain ⟨z4, hz4⟩ : ∃ z : AR, z = ((X0_shareCurrents qph qgr qne qap qle qfu qgd qri qnw qwa qgi qlo qtu n).2.2.2) := ⟨_, rfl⟩
    rw [← hz4] at hP hD
    have hP : va_P (dC, dI) vwCl (xW cI cZ h a qph qgr qne qap qle qfu qpc qgd qri qnw qtk qsv z1 z2 z3 z4) H := hP
    have hD : va_D A (xW cI cZ h a qph qgr qne qap qle qfu qpc qgd qri qnw qtk qsv z1 z2 z3 z4) := hD
    refine lv_aload_n hx hb dX0_imbalance_4 rfl (lv_at hl 0 rfl) ?_
    refine k_calli (rest := []) (q0 := 0) hC (c_X0_differenceOfLoads l dC dI cI cZ h a qph qgr qne qap qle qfu qpc qgd qri qnw qtk qsv z1 z2 z3 z4   ) (cwV 0 hts gX0_imbalance_X0_differenceOfLoads rfl rfl rfl hd_X0_differenceOfLoads ⟨Nat.le_of_ble_eq_true rfl, Nat.le_of_ble_eq_true rfl⟩) hK hP hD hS hA rfl rfl rfl hl.1 (Nat.le_of_ble_eq_true rfl) dX0_imbalance_5 rfl ⟨Nat.zero_le _, Nat.zero_le _⟩ (fun H locs hP hD hS => ?_)
    have hP9 := hP; have hD9 := hD
    subst hz1 hz2 hz3 hz4
    have hP8 : va_P (dC, dI) vwCl (xW cI cZ h a qph qgr qne qap qle qfu qpc qgd qri qnw qtk qsv ((X0_imbalance qph qgr qne qap qle qfu qgd qri qnw qwa qgi qlo qtu n).2.1) ((X0_imbalance qph qgr qne qap qle qfu qgd qri qnw qwa qgi qlo qtu n).2.2.1) ((X0_imbalance qph qgr qne qap qle qfu qgd qri qnw qwa qgi qlo qtu n).2.2.2.1) ((X0_imbalance qph qgr qne qap qle qfu qgd qri qnw qwa qgi qlo qtu n).2.2.2.2)) H := by rw [X0_imbalance]; exact hP9
    have hD8 : va_D A (xW cI cZ h a qph qgr qne qap qle qfu qpc qgd qri qnw qtk qsv ((X0_imbalance qph qgr qne qap qle qfu qgd qri qnw qwa qgi qlo qtu n).2.1) ((X0_imbalance qph qgr qne qap qle qfu qgd qri qnw qwa qgi qlo qtu n).2.2.1) ((X0_imbalance qph qgr qne qap qle qfu qgd qri qnw qwa qgi qlo qtu n).2.2.2.1) ((X0_imbalance qph qgr qne qap qle qfu qgd qri qnw qwa qgi qlo qtu n).2.2.2.2)) := by rw [X0_imbalance]; exact hD9
    exact hret H locs 8 ls (X0_differenceOfLoads ((X0_shareCurrents qph qgr qne qap qle qfu qgd qri qnw qwa qgi qlo qtu n).2.2.1)) hS hP8 hD8 (by rw [X0_imbalance]) dX0_imbalance_8
  exact hW _ _ hP hD hS
def X0_held_L8 (qph : AR) (qgr : AR) (qne : AR) (qap : AR) (qle : AR) (qfu : AR) (qgd : Int32) (qri : Int32) (qnw : Int32) (qwa : AR) (qgi : AR) (qlo : AR) (qtu : AR) (n : Nat) : Nat → Nat → Int32 → Int32
  | 0, k, se => se
  | j + 1, k, se => (if (((X0_shareCurrents qph qgr qne qap qle qfu qgd qri qnw qwa qgi qlo qtu n).1) (nI k).toNatClampNeg) ≤ (((X0_shareCurrents qph qgr qne qap qle qfu qgd qri qnw qwa qgi qlo qtu n).2.1) (nI k).toNatClampNeg) then X0_held_L8 qph qgr qne qap qle qfu qgd qri qnw qwa qgi qlo qtu n  j (k + 1) se else X0_held_L8 qph qgr qne qap qle qfu qgd qri qnw qwa qgi qlo qtu n  j (k + 1) (se ||| (1 <<< ((nI k) &&& 31))))
def X0_held (qph : AR) (qgr : AR) (qne : AR) (qap : AR) (qle : AR) (qfu : AR) (qgd : Int32) (qri : Int32) (qnw : Int32) (qwa : AR) (qgi : AR) (qlo : AR) (qtu : AR) (n : Nat) : Int32 × AR × AR × AR × AR := (((X0_held_L8 qph qgr qne qap qle qfu qgd qri qnw qwa qgi qlo qtu n  n 0 0)), ((X0_shareCurrents qph qgr qne qap qle qfu qgd qri qnw qwa qgi qlo qtu n).1), ((X0_shareCurrents qph qgr qne qap qle qfu qgd qri qnw qwa qgi qlo qtu n).2.1), ((X0_shareCurrents qph qgr qne qap qle qfu qgd qri qnw qwa qgi qlo qtu n).2.2.1), ((X0_shareCurrents qph qgr qne qap qle qfu qgd qri qnw qwa qgi qlo qtu n).2.2.2))
abbrev rmX0_held : Room := { frames := 6, cells := 0, slots := 0, locals := 123 }
theorem hd_X0_held : yX0_held.cls = RX0 ∧ yX0_held.cls ≠ "java/lang/invoke/MethodHandle" ∧ yX0_held.cls ≠ "java/lang/invoke/VarHandle" ∧ (parseMethodDescriptor yX0_held.desc).map (fun d => d.parameters.length) = some 0 := by decide +kernel
set_option maxHeartbeats 4000000 in
set_option maxRecDepth 100000 in
theorem c_X0_held (l : Launch) (dC : Nat → ClassId) (dI : Nat → Nat → Nat) (cI cZ : ClassId) (h : Nat) (a : Nat → Nat) (qph : AR) (qgr : AR) (qne : AR) (qap : AR) (qle : AR) (qfu : AR) (qpc : Int32) (qgd : Int32) (qri : Int32) (qnw : Int32) (qtk : Int32) (qsv : Int32) (qwa : AR) (qgi : AR) (qlo : AR) (qtu : AR) (n : Nat) (hpc : qpc = nI n) (hn : n ≤ 8) : Ki l yX0_held wsX0_held rmX0_held dC dI cI cZ [.ref h] (xW cI cZ h a qph qgr qne qap qle qfu qpc qgd qri qnw qtk qsv qwa qgi qlo qtu) (xW cI cZ h a qph qgr qne qap qle qfu qpc qgd qri qnw qtk qsv ((X0_held qph qgr qne qap qle qfu qgd qri qnw qwa qgi qlo qtu n).2.1) ((X0_held qph qgr qne qap qle qfu qgd qri qnw qwa qgi qlo qtu n).2.2.1) ((X0_held qph qgr qne qap qle qfu qgd qri qnw qwa qgi qlo qtu n).2.2.2.1) ((X0_held qph qgr qne qap qle qfu qgd qri qnw qwa qgi qlo qtu n).2.2.2.2)) (X0_held qph qgr qne qap qle qfu qgd qri qnw qwa qgi qlo qtu n).1 := by
  refine k_enter_i (cc := cX0_held) (maxL := 3) (ret := some .int) (by decide) rfl (Nat.le_of_ble_eq_true rfl) ?_
  intro p e s m below meth c A ls hC hr hlocks hK hP hD hS hA hl
  generalize List.toArray _ = args at hC ⊢
  obtain ⟨hx, hb, hml, hown, hts⟩ := id hC
  have hret : ∀ (H : Heap) (locs : List Loc) (pc : Nat) (ls : Array Slot) (r : Int32), va_S A s.heap H locs → va_P (dC, dI) vwCl (xW cI cZ h a qph qgr qne qap qle qfu qpc qgd qri qnw qtk qsv ((X0_held qph qgr qne qap qle qfu qgd qri qnw qwa qgi qlo qtu n).2.1) ((X0_held qph qgr qne qap qle qfu qgd qri qnw qwa qgi qlo qtu n).2.2.1) ((X0_held qph qgr qne qap qle qfu qgd qri qnw qwa qgi qlo qtu n).2.2.2.1) ((X0_held qph qgr qne qap qle qfu qgd qri qnw qwa qgi qlo qtu n).2.2.2.2)) H → va_D A (xW cI cZ h a qph qgr qne qap qle qfu qpc qgd qri qnw qtk qsv ((X0_held qph qgr qne qap qle qfu qgd qri qnw qwa qgi qlo qtu n).2.1) ((X0_held qph qgr qne qap qle qfu qgd qri qnw qwa qgi qlo qtu n).2.2.1) ((X0_held qph qgr qne qap qle qfu qgd qri qnw qwa qgi qlo qtu n).2.2.2.1) ((X0_held qph qgr qne qap qle qfu qgd qri qnw qwa qgi qlo qtu n).2.2.2.2)) → r = (X0_held qph qgr qne qap qle qfu qgd qri qnw qwa qgi qlo qtu n).1 → decode cX0_held pc = .ok (.ireturn, 1) → W p l e rmX0_held s m args below meth c H locs 0 0 (MQ below (va_Qi (fun r (_ : Unit) => r = (X0_held qph qgr qne qap qle qfu qgd qri qnw qwa qgi qlo qtu n).1) (kBeh dC dI A (xW cI cZ h a qph qgr qne qap qle qfu qpc qgd qri qnw qtk qsv ((X0_held qph qgr qne qap qle qfu qgd qri qnw qwa qgi qlo qtu n).2.1) ((X0_held qph qgr qne qap qle qfu qgd qri qnw qwa qgi qlo qtu n).2.2.1) ((X0_held qph qgr qne qap qle qfu qgd qri qnw qwa qgi qlo qtu n).2.2.2.1) ((X0_held qph qgr qne qap qle qfu qgd qri qnw qwa qgi qlo qtu n).2.2.2.2))) A) args s 0 0 A) (F0 m pc ls [.int r]) := fun H locs pc ls r hS hP hD hv d => k_iret hx hb hr hlocks hS hP hD hv d
  generalize MQ below _ _ _ _ _ _ = Q at hret ⊢
  have hin : ∀ w ∈ wsX00, w ∈ wsX0_held := by decide +kernel
  have hw0 := hts (.fieldLink RX0 55 "ChargePark" "pointCount" "I") (by decide +kernel)
  have hw1 := hts (.fieldLink RX0 28 "ChargePark" "given" "[I") (by decide +kernel)
  have hw2 := hts (.fieldLink RX0 25 "ChargePark" "wanted" "[I") (by decide +kernel)
  have hl : lv_has ls 3 [(0, .ref h)] := hl
  have hP : va_P (dC, dI) vwCl (xW cI cZ h a qph qgr qne qap qle qfu qpc qgd qri qnw qtk qsv qwa qgi qlo qtu) s.heap := hP
  have hW : ∀ (H : Heap) (locs : List Loc), va_P (dC, dI) vwCl (xW cI cZ h a qph qgr qne qap qle qfu qpc qgd qri qnw qtk qsv qwa qgi qlo qtu) H → va_D A (xW cI cZ h a qph qgr qne qap qle qfu qpc qgd qri qnw qtk qsv qwa qgi qlo qtu) → va_S A s.heap H locs → W p l e rmX0_held s m args below meth c H locs 0 0 Q (F0 m 0 ls []) := by
    intro H locs hP hD hS
    refine lv_aload_n hx hb dX0_held_0 rfl (lv_at hl 0 rfl) ?_
    refine k_callv (rest := []) (q0 := 0) hC (c_X0_shareCurrents l dC dI cI cZ h a qph qgr qne qap qle qfu qpc qgd qri qnw qtk qsv qwa qgi qlo qtu n  hpc hn) (cwV 0 hts gX0_held_X0_shareCurrents rfl rfl rfl hd_X0_shareCurrents ⟨Nat.le_of_ble_eq_true rfl, Nat.le_of_ble_eq_true rfl⟩) hK hP hD hS hA rfl rfl rfl hl.1 (Nat.le_of_ble_eq_true rfl) dX0_held_1 rfl ⟨Nat.zero_le _, Nat.zero_le _⟩ (fun H locs hP hD hS => ?_)
    obtain ⟨z1, hz1⟩ : ∃ z : AR, z = ((X0_shareCurrents qph qgr qne qap qle qfu qgd qri qnw qwa qgi qlo qtu n).1) := ⟨_, rfl⟩
    rw [← hz1] at hP hD
    obtain ⟨z2, hz2⟩ : ∃ z : AR, z = ((X0_shareCurrents qph qgr qne qap qle qfu qgd qri qnw qwa qgi qlo qtu n).2.1) := ⟨_, rfl⟩
    rw [← hz2] at hP hD
    obtain ⟨z3, hz3⟩ : ∃ z : AR, z = ((X0_shareCurrents qph qgr qne qap qle qfu qgd qri qnw qwa qgi qlo qtu n).2.2.1) := ⟨_, rfl⟩
    rw [← hz3] at hP hD
    obtain ⟨z4, hz4⟩ : ∃ z : AR, z = ((X0_shareCurrents qph qgr qne qap qle qfu qgd qri qnw qwa qgi qlo qtu n).2.2.2) := ⟨_, rfl⟩
    rw [← hz4] at hP hD
    have hP : va_P (dC, dI) vwCl (xW cI cZ h a qph qgr qne qap qle qfu qpc qgd qri qnw qtk qsv z1 z2 z3 z4) H := hP
    have hD : va_D A (xW cI cZ h a qph qgr qne qap qle qfu qpc qgd qri qnw qtk qsv z1 z2 z3 z4) := hD
    refine lv_iconst (v := 0) hx hb dX0_held_4 (by decide) ?_
    refine lv_istore_n (lv' := [(1, .int 0), (0, .ref h)]) hx hb dX0_held_5 rfl hl (by decide) rfl (fun ls hl => ?_)
    refine lv_iconst (v := 0) hx hb dX0_held_6 (by decide) ?_
    refine lv_istore_n (lv' := [(2, .int 0), (1, .int 0), (0, .ref h)]) hx hb dX0_held_7 rfl hl (by decide) rfl (fun ls hl => ?_)
    have cont8 : ∀ (z5 : Int32), z5 = (X0_held_L8 qph qgr qne qap qle qfu qgd qri qnw qwa qgi qlo qtu n  n 0 0) → ∀ (H : Heap) (locs : List Loc) (ls : Array Slot), va_P (dC, dI) vwCl (xW cI cZ h a qph qgr qne qap qle qfu qpc qgd qri qnw qtk qsv z1 z2 z3 z4) H → va_D A (xW cI cZ h a qph qgr qne qap qle qfu qpc qgd qri qnw qtk qsv z1 z2 z3 z4) → va_S A s.heap H locs → lv_has ls 3 [(0, .ref h), (1, .int z5)] → W p l e rmX0_held s m args below meth c H locs 0 0 Q (F0 m 43 ls []) := by
      intro z5 hz5 H locs ls hP hD hS hl
      refine lv_iload_n hx hb dX0_held_43 rfl (lv_at hl 1 rfl) ?_
      have hP9 := hP; have hD9 := hD
      subst hz1 hz2 hz3 hz4 hz5
      have hP8 : va_P (dC, dI) vwCl (xW cI cZ h a qph qgr qne qap qle qfu qpc qgd qri qnw qtk qsv ((X0_held qph qgr qne qap qle qfu qgd qri qnw qwa qgi qlo qtu n).2.1) ((X0_held qph qgr qne qap qle qfu qgd qri qnw qwa qgi qlo qtu n).2.2.1) ((X0_held qph qgr qne qap qle qfu qgd qri qnw qwa qgi qlo qtu n).2.2.2.1) ((X0_held qph qgr qne qap qle qfu qgd qri qnw qwa qgi qlo qtu n).2.2.2.2)) H := by rw [X0_held]; exact hP9
      have hD8 : va_D A (xW cI cZ h a qph qgr qne qap qle qfu qpc qgd qri qnw qtk qsv ((X0_held qph qgr qne qap qle qfu qgd qri qnw qwa qgi qlo qtu n).2.1) ((X0_held qph qgr qne qap qle qfu qgd qri qnw qwa qgi qlo qtu n).2.2.1) ((X0_held qph qgr qne qap qle qfu qgd qri qnw qwa qgi qlo qtu n).2.2.2.1) ((X0_held qph qgr qne qap qle qfu qgd qri qnw qwa qgi qlo qtu n).2.2.2.2)) := by rw [X0_held]; exact hD9
      exact hret H locs 44 ls ((X0_held_L8 qph qgr qne qap qle qfu qgd qri qnw qwa qgi qlo qtu n  n 0 0)) hS hP8 hD8 (by rw [X0_held]) dX0_held_44
    have loop8 : ∀ (j k : Nat) (se : Int32), k + j = n → X0_held_L8 qph qgr qne qap qle qfu qgd qri qnw qwa qgi qlo qtu n  j k se = (X0_held_L8 qph qgr qne qap qle qfu qgd qri qnw qwa qgi qlo qtu n  n 0 0) → ∀ (H : Heap) (locs : List Loc) (ls : Array Slot), va_P (dC, dI) vwCl (xW cI cZ h a qph qgr qne qap qle qfu qpc qgd qri qnw qtk qsv z1 z2 z3 z4) H → va_D A (xW cI cZ h a qph qgr qne qap qle qfu qpc qgd qri qnw qtk qsv z1 z2 z3 z4) → va_S A s.heap H locs → lv_has ls 3 [(0, .ref h), (1, .int se), (2, .int (nI k))] → W p l e rmX0_held s m args below meth c H locs 0 0 Q (F0 m 8 ls []) := by
      intro j
      induction j with
      | zero =>
        intro k se hk hR  H locs ls hP hD hS hl
        refine lv_iload_n hx hb dX0_held_8 rfl (lv_at hl 2 rfl) ?_
        refine lv_aload_n hx hb dX0_held_9 rfl (lv_at hl 0 rfl) ?_
        refine va_get (D := (dC, dI)) (ci := 0) (v := .int qpc) (C := RX0) (T := TX0) (N := 16) hx hb hts hin hown hK hP 0 rfl rfl 6 (by decide) hw0 (fun _ h9 => h9) rfl dX0_held_10 ?_
        refine lv_icmp_ge (tgt := 43) hx hb dX0_held_13 (by decide) (fun _ => ?_) (fun c => absurd (by rw [hpc]; exact nI_le (by omega) (by omega)) c)
        have hP9 := hP; have hD9 := hD; have hl9 := hl; have hR9 := hR
        subst hz1 hz2 hz3 hz4
        exact cont8 se (by rw [← hR9, X0_held_L8]) H locs ls hP9 hD9 hS (lv_sub hl9 [0, 1] rfl)
      | succ j ih =>
        intro k se hk hR  H locs ls hP hD hS hl
        refine lv_iload_n hx hb dX0_held_8 rfl (lv_at hl 2 rfl) ?_
        refine lv_aload_n hx hb dX0_held_9 rfl (lv_at hl 0 rfl) ?_
        refine va_get (D := (dC, dI)) (ci := 0) (v := .int qpc) (C := RX0) (T := TX0) (N := 16) hx hb hts hin hown hK hP 0 rfl rfl 6 (by decide) hw0 (fun _ h9 => h9) rfl dX0_held_10 ?_
        refine lv_icmp_ge (tgt := 43) hx hb dX0_held_13 (by decide) (fun c => absurd c (by rw [hpc]; exact nI_ge (by omega) (by omega))) (fun _ => ?_)
        refine lv_aload_n hx hb dX0_held_16 rfl (lv_at hl 0 rfl) ?_
        refine va_get (D := (dC, dI)) (ci := 0) (v := .ref (a 13)) (C := RX0) (T := TX0) (N := 16) hx hb hts hin hown hK hP 0 rfl rfl 13 (by decide) hw1 (fun _ h9 => h9) rfl dX0_held_17 ?_
        refine lv_iload_n hx hb dX0_held_20 rfl (lv_at hl 2 rfl) ?_
        refine va_iald (f := z2) hx hb hK hP 8 0 rfl rfl (vp_in_nI (by omega) (by decide)) dX0_held_21 ?_
        refine lv_aload_n hx hb dX0_held_22 rfl (lv_at hl 0 rfl) ?_
        refine va_get (D := (dC, dI)) (ci := 0) (v := .ref (a 12)) (C := RX0) (T := TX0) (N := 16) hx hb hts hin hown hK hP 0 rfl rfl 12 (by decide) hw2 (fun _ h9 => h9) rfl dX0_held_23 ?_
        refine lv_iload_n hx hb dX0_held_26 rfl (lv_at hl 2 rfl) ?_
        refine va_iald (f := z1) hx hb hK hP 7 0 rfl rfl (vp_in_nI (by omega) (by decide)) dX0_held_27 ?_
        refine lv_icmp_ge (tgt := 37) hx hb dX0_held_28 (by decide) (fun c28 => ?_) (fun c28 => ?_)
        · refine lv_iinc (v := (nI (k + 1))) (lv' := [(2, .int (nI (k + 1))), (0, .ref h), (1, .int se)]) hx hb dX0_held_37 hl (k := 2) rfl (nI_1 k) (by decide) rfl (fun ls hl => ?_)
          refine lv_goto (tgt := 8) hx hb dX0_held_40 (by decide) ?_
          have hP9 := hP; have hD9 := hD; have hl9 := hl; have hR9 := hR; have ih9 := ih
          subst hz1 hz2 hz3 hz4
          exact ih9 (k + 1) se (by omega) (by rw [← hR9, X0_held_L8, if_pos c28])  H locs ls hP9 hD9 hS (lv_sub hl9 [1, 2, 0] rfl)
        · refine lv_iload_n hx hb dX0_held_31 rfl (lv_at hl 1 rfl) ?_
          refine lv_iconst (v := 1) hx hb dX0_held_32 (by decide) ?_
          refine lv_iload_n hx hb dX0_held_33 rfl (lv_at hl 2 rfl) ?_
          refine lv_ishl hx hb dX0_held_34 ?_
          refine lv_ior hx hb dX0_held_35 ?_
          refine lv_istore_n (lv' := [(1, .int (se ||| (1 <<< ((nI k) &&& 31)))), (0, .ref h), (2, .int (nI k))]) hx hb dX0_held_36 rfl hl (by decide) rfl (fun ls hl => ?_)
          refine lv_iinc (v := (nI (k + 1))) (lv' := [(2, .int (nI (k + 1))), (1, .int (se ||| (1 <<< ((nI k) &&& 31)))), (0, .ref h)]) hx hb dX0_held_37 hl (k := 2) rfl (nI_1 k) (by decide) rfl (fun ls hl => ?_)
          refine lv_goto (tgt := 8) hx hb dX0_held_40 (by decide) ?_
          have hP9 := hP; have hD9 := hD; have hl9 := hl; have hR9 := hR; have ih9 := ih
          subst hz1 hz2 hz3 hz4
          exact ih9 (k + 1) (se ||| (1 <<< ((nI k) &&& 31))) (by omega) (by rw [← hR9, X0_held_L8, if_neg c28])  H locs ls hP9 hD9 hS (lv_sub hl9 [2, 1, 0] rfl)
    exact loop8 n 0 0 (by omega) rfl  H locs ls hP hD hS (lv_sub hl [2, 1, 0] rfl)
  exact hW _ _ hP hD hS
def X0_fairLevel_L22 (qph : AR) (qgr : AR) (qne : AR) (qap : AR) (qle : AR) (qfu : AR) (qgd : Int32) (qri : Int32) (qnw : Int32) (qwa : AR) (qgi : AR) (qlo : AR) (qtu : AR) (n : Nat) (f : Int32) : Nat → Nat → Int32 × AR × AR × AR × AR
  | 0, k => ((-1), ((X0_shareCurrents qph qgr qne qap qle qfu qgd qri qnw qwa qgi qlo qtu n).1), ((X0_shareCurrents qph qgr qne qap qle qfu qgd qri qnw qwa qgi qlo qtu n).2.1), ((X0_shareCurrents qph qgr qne qap qle qfu qgd qri qnw qwa qgi qlo qtu n).2.2.1), ((X0_shareCurrents qph qgr qne qap qle qfu qgd qri qnw qwa qgi qlo qtu n).2.2.2))
  | j + 1, k => (if ((X0_usedAtLevel qph ((X0_shareCurrents qph qgr qne qap qle qfu qgd qri qnw qwa qgi qlo qtu n).1) n f ((nI k) + 1)) - (X0_usedAtLevel qph ((X0_shareCurrents qph qgr qne qap qle qfu qgd qri qnw qwa qgi qlo qtu n).1) n f (nI k))) ≤ 0 then X0_fairLevel_L22 qph qgr qne qap qle qfu qgd qri qnw qwa qgi qlo qtu n f  j (k + 1)  else (if ((X0_usedAtLevel qph ((X0_shareCurrents qph qgr qne qap qle qfu qgd qri qnw qwa qgi qlo qtu n).1) n f (nI k)) + ((X0_usedAtLevel qph ((X0_shareCurrents qph qgr qne qap qle qfu qgd qri qnw qwa qgi qlo qtu n).1) n f ((nI k) + 1)) - (X0_usedAtLevel qph ((X0_shareCurrents qph qgr qne qap qle qfu qgd qri qnw qwa qgi qlo qtu n).1) n f (nI k)))) ≤ ((qfu f.toNatClampNeg) - (X0_givenAtAllPhases qph ((X0_shareCurrents qph qgr qne qap qle qfu qgd qri qnw qwa qgi qlo qtu n).2.1) n)) then X0_fairLevel_L22 qph qgr qne qap qle qfu qgd qri qnw qwa qgi qlo qtu n f  j (k + 1)  else (((1000 * (nI k)) + ((1000 * (((qfu f.toNatClampNeg) - (X0_givenAtAllPhases qph ((X0_shareCurrents qph qgr qne qap qle qfu qgd qri qnw qwa qgi qlo qtu n).2.1) n)) - (X0_usedAtLevel qph ((X0_shareCurrents qph qgr qne qap qle qfu qgd qri qnw qwa qgi qlo qtu n).1) n f (nI k)))) / ((X0_usedAtLevel qph ((X0_shareCurrents qph qgr qne qap qle qfu qgd qri qnw qwa qgi qlo qtu n).1) n f ((nI k) + 1)) - (X0_usedAtLevel qph ((X0_shareCurrents qph qgr qne qap qle qfu qgd qri qnw qwa qgi qlo qtu n).1) n f (nI k))))), ((X0_shareCurrents qph qgr qne qap qle qfu qgd qri qnw qwa qgi qlo qtu n).1), ((X0_shareCurrents qph qgr qne qap qle qfu qgd qri qnw qwa qgi qlo qtu n).2.1), ((X0_shareCurrents qph qgr qne qap qle qfu qgd qri qnw qwa qgi qlo qtu n).2.2.1), ((X0_shareCurrents qph qgr qne qap qle qfu qgd qri qnw qwa qgi qlo qtu n).2.2.2))))
def X0_fairLevel_T (n : Nat) (f : Int32) : Int32 := (if (X0_requirePhase_T f) = 0 then 0 else 1)
def X0_fairLevel (qph : AR) (qgr : AR) (qne : AR) (qap : AR) (qle : AR) (qfu : AR) (qgd : Int32) (qri : Int32) (qnw : Int32) (qwa : AR) (qgi : AR) (qlo : AR) (qtu : AR) (n : Nat) (f : Int32) : Int32 × AR × AR × AR × AR := (if (X0_requirePhase_T f) = 0 then (X0_fairLevel_L22 qph qgr qne qap qle qfu qgd qri qnw qwa qgi qlo qtu n f  32 0 ) else (0, qwa, qgi, qlo, qtu))
abbrev rmX0_fairLevel : Room := { frames := 6, cells := 0, slots := 0, locals := 123 }
theorem hd_X0_fairLevel : yX0_fairLevel.cls = RX0 ∧ yX0_fairLevel.cls ≠ "java/lang/invoke/MethodHandle" ∧ yX0_fairLevel.cls ≠ "java/lang/invoke/VarHandle" ∧ (parseMethodDescriptor yX0_fairLevel.desc).map (fun d => d.parameters.length) = some 1 := by decide +kernel
set_option maxHeartbeats 4000000 in
set_option maxRecDepth 100000 in
theorem c_X0_fairLevel (l : Launch) (dC : Nat → ClassId) (dI : Nat → Nat → Nat) (cI cZ : ClassId) (h : Nat) (a : Nat → Nat) (qph : AR) (qgr : AR) (qne : AR) (qap : AR) (qle : AR) (qfu : AR) (qpc : Int32) (qgd : Int32) (qri : Int32) (qnw : Int32) (qtk : Int32) (qsv : Int32) (qwa : AR) (qgi : AR) (qlo : AR) (qtu : AR) (n : Nat) (f : Int32) (hpc : qpc = nI n) (hn : n ≤ 8) (hok : X0_fairLevel_T n f = 0) : Ki l yX0_fairLevel wsX0_fairLevel rmX0_fairLevel dC dI cI cZ [.ref h, .int f] (xW cI cZ h a qph qgr qne qap qle qfu qpc qgd qri qnw qtk qsv qwa qgi qlo qtu) (xW cI cZ h a qph qgr qne qap qle qfu qpc qgd qri qnw qtk qsv ((X0_fairLevel qph qgr qne qap qle qfu qgd qri qnw qwa qgi qlo qtu n f).2.1) ((X0_fairLevel qph qgr qne qap qle qfu qgd qri qnw qwa qgi qlo qtu n f).2.2.1) ((X0_fairLevel qph qgr qne qap qle qfu qgd qri qnw qwa qgi qlo qtu n f).2.2.2.1) ((X0_fairLevel qph qgr qne qap qle qfu qgd qri qnw qwa qgi qlo qtu n f).2.2.2.2)) (X0_fairLevel qph qgr qne qap qle qfu qgd qri qnw qwa qgi qlo qtu n f).1 := by
  refine k_enter_i (cc := cX0_fairLevel) (maxL := 6) (ret := some .int) (by decide) rfl (Nat.le_of_ble_eq_true rfl) ?_
  intro p e s m below meth c A ls hC hr hlocks hK hP hD hS hA hl
  generalize List.toArray _ = args at hC ⊢
  obtain ⟨hx, hb, hml, hown, hts⟩ := id hC
  have hret : ∀ (H : Heap) (locs : List Loc) (pc : Nat) (ls : Array Slot) (r : Int32), va_S A s.heap H locs → va_P (dC, dI) vwCl (xW cI cZ h a qph qgr qne qap qle qfu qpc qgd qri qnw qtk qsv ((X0_fairLevel qph qgr qne qap qle qfu qgd qri qnw qwa qgi qlo qtu n f).2.1) ((X0_fairLevel qph qgr qne qap qle qfu qgd qri qnw qwa qgi qlo qtu n f).2.2.1) ((X0_fairLevel qph qgr qne qap qle qfu qgd qri qnw qwa qgi qlo qtu n f).2.2.2.1) ((X0_fairLevel qph qgr qne qap qle qfu qgd qri qnw qwa qgi qlo qtu n f).2.2.2.2)) H → va_D A (xW cI cZ h a qph qgr qne qap qle qfu qpc qgd qri qnw qtk qsv ((X0_fairLevel qph qgr qne qap qle qfu qgd qri qnw qwa qgi qlo qtu n f).2.1) ((X0_fairLevel qph qgr qne qap qle qfu qgd qri qnw qwa qgi qlo qtu n f).2.2.1) ((X0_fairLevel qph qgr qne qap qle qfu qgd qri qnw qwa qgi qlo qtu n f).2.2.2.1) ((X0_fairLevel qph qgr qne qap qle qfu qgd qri qnw qwa qgi qlo qtu n f).2.2.2.2)) → r = (X0_fairLevel qph qgr qne qap qle qfu qgd qri qnw qwa qgi qlo qtu n f).1 → decode cX0_fairLevel pc = .ok (.ireturn, 1) → W p l e rmX0_fairLevel s m args below meth c H locs 0 0 (MQ below (va_Qi (fun r (_ : Unit) => r = (X0_fairLevel qph qgr qne qap qle qfu qgd qri qnw qwa qgi qlo qtu n f).1) (kBeh dC dI A (xW cI cZ h a qph qgr qne qap qle qfu qpc qgd qri qnw qtk qsv ((X0_fairLevel qph qgr qne qap qle qfu qgd qri qnw qwa qgi qlo qtu n f).2.1) ((X0_fairLevel qph qgr qne qap qle qfu qgd qri qnw qwa qgi qlo qtu n f).2.2.1) ((X0_fairLevel qph qgr qne qap qle qfu qgd qri qnw qwa qgi qlo qtu n f).2.2.2.1) ((X0_fairLevel qph qgr qne qap qle qfu qgd qri qnw qwa qgi qlo qtu n f).2.2.2.2))) A) args s 0 0 A) (F0 m pc ls [.int r]) := fun H locs pc ls r hS hP hD hv d => k_iret hx hb hr hlocks hS hP hD hv d
  generalize MQ below _ _ _ _ _ _ = Q at hret ⊢
  have hin : ∀ w ∈ wsX00, w ∈ wsX0_fairLevel := by decide +kernel
  have hw0 := hts (.fieldLink RX0 37 "ChargePark" "fuseOf" "[I") (by decide +kernel)
  have hl : lv_has ls 6 [(0, .ref h), (1, .int f)] := hl
  have hP : va_P (dC, dI) vwCl (xW cI cZ h a qph qgr qne qap qle qfu qpc qgd qri qnw qtk qsv qwa qgi qlo qtu) s.heap := hP
  have hW : ∀ (H : Heap) (locs : List Loc), va_P (dC, dI) vwCl (xW cI cZ h a qph qgr qne qap qle qfu qpc qgd qri qnw qtk qsv qwa qgi qlo qtu) H → va_D A (xW cI cZ h a qph qgr qne qap qle qfu qpc qgd qri qnw qtk qsv qwa qgi qlo qtu) → va_S A s.heap H locs → W p l e rmX0_fairLevel s m args below meth c H locs 0 0 Q (F0 m 0 ls []) := by
    intro H locs hP hD hS
    refine lv_iload_n hx hb dX0_fairLevel_0 rfl (lv_at hl 1 rfl) ?_
    by_cases c1 : (X0_requirePhase_T f) = 0
    · refine k_callsv (rest := []) (As := [.int f]) hC (c_X0_requirePhase l dC dI cI cZ (xW cI cZ h a qph qgr qne qap qle qfu qpc qgd qri qnw qtk qsv qwa qgi qlo qtu) f c1) (va_cwS 1 hts gX0_fairLevel_X0_requirePhase rfl rfl rfl hd_X0_requirePhase ⟨Nat.le_of_ble_eq_true rfl, Nat.le_of_ble_eq_true rfl⟩) hK hP hD hS hA rfl hl.1 (Nat.le_of_ble_eq_true rfl) dX0_fairLevel_1 rfl ⟨Nat.zero_le _, Nat.zero_le _⟩ (fun H locs hP hD hS => ?_)
      refine lv_aload_n hx hb dX0_fairLevel_4 rfl (lv_at hl 0 rfl) ?_
      refine k_callv (rest := []) (q0 := 0) hC (c_X0_shareCurrents l dC dI cI cZ h a qph qgr qne qap qle qfu qpc qgd qri qnw qtk qsv qwa qgi qlo qtu n  hpc hn) (cwV 0 hts gX0_fairLevel_X0_shareCurrents rfl rfl rfl hd_X0_shareCurrents ⟨Nat.le_of_ble_eq_true rfl, Nat.le_of_ble_eq_true rfl⟩) hK hP hD hS hA rfl rfl rfl hl.1 (Nat.le_of_ble_eq_true rfl) dX0_fairLevel_5 rfl ⟨Nat.zero_le _, Nat.zero_le _⟩ (fun H locs hP hD hS => ?_)
      obtain ⟨z1, hz1⟩ : ∃ z : AR, z = ((X0_shareCurrents qph qgr qne qap qle qfu qgd qri qnw qwa qgi qlo qtu n).1) := ⟨_, rfl⟩
      rw [← hz1] at hP hD
      obtain ⟨z2, hz2⟩ : ∃ z : AR, z = ((X0_shareCurrents qph qgr qne qap qle qfu qgd qri qnw qwa qgi qlo qtu n).2.1) := ⟨_, rfl⟩
      rw [← hz2] at hP hD
      obtain ⟨z3, hz3⟩ : ∃ z : AR, z = ((X0_shareCurrents qph qgr qne qap qle qfu qgd qri qnw qwa qgi qlo qtu n).2.2.1) := ⟨_, rfl⟩
      rw [← hz3] at hP hD
      obtain ⟨z4, hz4⟩ : ∃ z : AR, z = ((X0_shareCurrents qph qgr qne qap qle qfu qgd qri qnw qwa qgi qlo qtu n).2.2.2) := ⟨_, rfl⟩
      rw [← hz4] at hP hD
      have hP : va_P (dC, dI) vwCl (xW cI cZ h a qph qgr qne qap qle qfu qpc qgd qri qnw qtk qsv z1 z2 z3 z4) H := hP
      have hD : va_D A (xW cI cZ h a qph qgr qne qap qle qfu qpc qgd qri qnw qtk qsv z1 z2 z3 z4) := hD
      refine lv_aload_n hx hb dX0_fairLevel_8 rfl (lv_at hl 0 rfl) ?_
      refine va_get (D := (dC, dI)) (ci := 0) (v := .ref (a 5)) (C := RX0) (T := TX0) (N := 16) hx hb hts hin hown hK hP 0 rfl rfl 5 (by decide) hw0 (fun _ h9 => h9) rfl dX0_fairLevel_9 ?_
      refine lv_iload_n hx hb dX0_fairLevel_12 rfl (lv_at hl 1 rfl) ?_
      refine va_iald (f := qfu) hx hb hK hP 6 0 rfl rfl (rqp_in c1) dX0_fairLevel_13 ?_
      refine lv_aload_n hx hb dX0_fairLevel_14 rfl (lv_at hl 0 rfl) ?_
      refine k_calli (rest := [.int (qfu f.toNatClampNeg)]) (q0 := 0) hC (c_X0_givenAtAllPhases l dC dI cI cZ h a qph qgr qne qap qle qfu qpc qgd qri qnw qtk qsv z1 z2 z3 z4 n  hpc hn) (cwV 0 hts gX0_fairLevel_X0_givenAtAllPhases rfl rfl rfl hd_X0_givenAtAllPhases ⟨Nat.le_of_ble_eq_true rfl, Nat.le_of_ble_eq_true rfl⟩) hK hP hD hS hA rfl rfl rfl hl.1 (Nat.le_of_ble_eq_true rfl) dX0_fairLevel_15 rfl ⟨Nat.zero_le _, Nat.zero_le _⟩ (fun H locs hP hD hS => ?_)
      refine lv_isub hx hb dX0_fairLevel_18 ?_
      refine lv_istore_n (lv' := [(2, .int ((qfu f.toNatClampNeg) - (X0_givenAtAllPhases qph z2 n))), (0, .ref h), (1, .int f)]) hx hb dX0_fairLevel_19 rfl hl (by decide) rfl (fun ls hl => ?_)
      refine lv_iconst (v := 0) hx hb dX0_fairLevel_20 (by decide) ?_
      refine lv_istore_n (lv' := [(3, .int 0), (2, .int ((qfu f.toNatClampNeg) - (X0_givenAtAllPhases qph z2 n))), (0, .ref h), (1, .int f)]) hx hb dX0_fairLevel_21 rfl hl (by decide) rfl (fun ls hl => ?_)
      have loop22 : ∀ (j k : Nat), k + j = 32 → X0_fairLevel_L22 qph qgr qne qap qle qfu qgd qri qnw qwa qgi qlo qtu n f  j k  = (X0_fairLevel qph qgr qne qap qle qfu qgd qri qnw qwa qgi qlo qtu n f) → ∀ (H : Heap) (locs : List Loc) (ls : Array Slot), va_P (dC, dI) vwCl (xW cI cZ h a qph qgr qne qap qle qfu qpc qgd qri qnw qtk qsv z1 z2 z3 z4) H → va_D A (xW cI cZ h a qph qgr qne qap qle qfu qpc qgd qri qnw qtk qsv z1 z2 z3 z4) → va_S A s.heap H locs → lv_has ls 6 [(0, .ref h), (1, .int f), (2, .int ((qfu f.toNatClampNeg) - (X0_givenAtAllPhases qph z2 n))), (3, .int (nI k))] → W p l e rmX0_fairLevel s m args below meth c H locs 0 0 Q (F0 m 22 ls []) := by
        intro j
        induction j with
        | zero =>
          intro k  hk hR  H locs ls hP hD hS hl
          refine lv_iload_n hx hb dX0_fairLevel_22 rfl (lv_at hl 3 rfl) ?_
          refine lv_bipush (v := 32) hx hb dX0_fairLevel_23 (by decide) ?_
          refine lv_icmp_ge (tgt := 87) hx hb dX0_fairLevel_25 (by decide) (fun _ => ?_) (fun c => absurd (by rw [nIl32]; exact nI_le (by omega) (by omega)) c)
          refine lv_iconst (v := (-1)) hx hb dX0_fairLevel_87 (by decide) ?_
          have hP9 := hP; have hD9 := hD; have hR9 := hR
          subst hz1 hz2 hz3 hz4
          have hP8 : va_P (dC, dI) vwCl (xW cI cZ h a qph qgr qne qap qle qfu qpc qgd qri qnw qtk qsv ((X0_fairLevel qph qgr qne qap qle qfu qgd qri qnw qwa qgi qlo qtu n f).2.1) ((X0_fairLevel qph qgr qne qap qle qfu qgd qri qnw qwa qgi qlo qtu n f).2.2.1) ((X0_fairLevel qph qgr qne qap qle qfu qgd qri qnw qwa qgi qlo qtu n f).2.2.2.1) ((X0_fairLevel qph qgr qne qap qle qfu qgd qri qnw qwa qgi qlo qtu n f).2.2.2.2)) H := by rw [← hR9, X0_fairLevel_L22]; exact hP9
          have hD8 : va_D A (xW cI cZ h a qph qgr qne qap qle qfu qpc qgd qri qnw qtk qsv ((X0_fairLevel qph qgr qne qap qle qfu qgd qri qnw qwa qgi qlo qtu n f).2.1) ((X0_fairLevel qph qgr qne qap qle qfu qgd qri qnw qwa qgi qlo qtu n f).2.2.1) ((X0_fairLevel qph qgr qne qap qle qfu qgd qri qnw qwa qgi qlo qtu n f).2.2.2.1) ((X0_fairLevel qph qgr qne qap qle qfu qgd qri qnw qwa qgi qlo qtu n f).2.2.2.2)) := by rw [← hR9, X0_fairLevel_L22]; exact hD9
          exact hret H locs 88 ls (-1) hS hP8 hD8 (by rw [← hR9, X0_fairLevel_L22]) dX0_fairLevel_88
        | succ j ih =>
          intro k  hk hR  H locs ls hP hD hS hl
          refine lv_iload_n hx hb dX0_fairLevel_22 rfl (lv_at hl 3 rfl) ?_
          refine lv_bipush (v := 32) hx hb dX0_fairLevel_23 (by decide) ?_
          refine lv_icmp_ge (tgt := 87) hx hb dX0_fairLevel_25 (by decide) (fun c => absurd c (by rw [nIl32]; exact nI_ge (by omega) (by omega))) (fun _ => ?_)
          refine lv_aload_n hx hb dX0_fairLevel_28 rfl (lv_at hl 0 rfl) ?_
          refine lv_iload_n hx hb dX0_fairLevel_29 rfl (lv_at hl 1 rfl) ?_
          refine lv_iload_n hx hb dX0_fairLevel_30 rfl (lv_at hl 3 rfl) ?_
          refine k_calli (rest := []) (q0 := 0) hC (c_X0_usedAtLevel l dC dI cI cZ h a qph qgr qne qap qle qfu qpc qgd qri qnw qtk qsv z1 z2 z3 z4 n f (nI k) hpc hn) (cwV 2 hts gX0_fairLevel_X0_usedAtLevel rfl rfl rfl hd_X0_usedAtLevel ⟨Nat.le_of_ble_eq_true rfl, Nat.le_of_ble_eq_true rfl⟩) hK hP hD hS hA rfl rfl rfl hl.1 (Nat.le_of_ble_eq_true rfl) dX0_fairLevel_31 rfl ⟨Nat.zero_le _, Nat.zero_le _⟩ (fun H locs hP hD hS => ?_)
          refine lv_istore (lv' := [(4, .int (X0_usedAtLevel qph z1 n f (nI k))), (0, .ref h), (1, .int f), (2, .int ((qfu f.toNatClampNeg) - (X0_givenAtAllPhases qph z2 n))), (3, .int (nI k))]) hx hb dX0_fairLevel_34 hl (by decide) rfl (fun ls hl => ?_)
          refine lv_aload_n hx hb dX0_fairLevel_36 rfl (lv_at hl 1 rfl) ?_
          refine lv_iload_n hx hb dX0_fairLevel_37 rfl (lv_at hl 2 rfl) ?_
          refine lv_iload_n hx hb dX0_fairLevel_38 rfl (lv_at hl 4 rfl) ?_
          refine lv_iconst (v := 1) hx hb dX0_fairLevel_39 (by decide) ?_
          refine lv_iadd hx hb dX0_fairLevel_40 ?_
          refine k_calli (rest := []) (q0 := 0) hC (c_X0_usedAtLevel l dC dI cI cZ h a qph qgr qne qap qle qfu qpc qgd qri qnw qtk qsv z1 z2 z3 z4 n f ((nI k) + 1) hpc hn) (cwV 2 hts gX0_fairLevel_X0_usedAtLevel rfl rfl rfl hd_X0_usedAtLevel ⟨Nat.le_of_ble_eq_true rfl, Nat.le_of_ble_eq_true rfl⟩) hK hP hD hS hA rfl rfl rfl hl.1 (Nat.le_of_ble_eq_true rfl) dX0_fairLevel_41 rfl ⟨Nat.zero_le _, Nat.zero_le _⟩ (fun H locs hP hD hS => ?_)
          refine lv_iload hx hb dX0_fairLevel_44 (lv_at hl 0 rfl) ?_
          refine lv_isub hx hb dX0_fairLevel_46 ?_
          refine lv_istore (lv' := [(5, .int ((X0_usedAtLevel qph z1 n f ((nI k) + 1)) - (X0_usedAtLevel qph z1 n f (nI k)))), (4, .int (X0_usedAtLevel qph z1 n f (nI k))), (0, .ref h), (1, .int f), (2, .int ((qfu f.toNatClampNeg) - (X0_givenAtAllPhases qph z2 n))), (3, .int (nI k))]) hx hb dX0_fairLevel_47 hl (by decide) rfl (fun ls hl => ?_)
          refine lv_iload hx hb dX0_fairLevel_49 (lv_at hl 0 rfl) ?_
          refine lv_if_le (tgt := 81) hx hb dX0_fairLevel_51 (by decide) (fun c51 => ?_) (fun c51 => ?_)
          · refine lv_iinc (v := (nI (k + 1))) (lv' := [(3, .int (nI (k + 1))), (5, .int ((X0_usedAtLevel qph z1 n f ((nI k) + 1)) - (X0_usedAtLevel qph z1 n f (nI k)))), (4, .int (X0_usedAtLevel qph z1 n f (nI k))), (0, .ref h), (1, .int f), (2, .int ((qfu f.toNatClampNeg) - (X0_givenAtAllPhases qph z2 n)))]) hx hb dX0_fairLevel_81 hl (k := 5) rfl (nI_1 k) (by decide) rfl (fun ls hl => ?_)
            refine lv_goto (tgt := 22) hx hb dX0_fairLevel_84 (by decide) ?_
            have hP9 := hP; have hD9 := hD; have hl9 := hl; have hR9 := hR; have ih9 := ih
            subst hz1 hz2 hz3 hz4
            exact ih9 (k + 1)  (by omega) (by rw [← hR9, X0_fairLevel_L22, if_pos c51])  H locs ls hP9 hD9 hS (lv_sub hl9 [3, 4, 5, 0] rfl)
          · refine lv_iload hx hb dX0_fairLevel_54 (lv_at hl 1 rfl) ?_
            refine lv_iload hx hb dX0_fairLevel_56 (lv_at hl 0 rfl) ?_
            refine lv_iadd hx hb dX0_fairLevel_58 ?_
            refine lv_iload_n hx hb dX0_fairLevel_59 rfl (lv_at hl 4 rfl) ?_
            refine lv_icmp_le (tgt := 81) hx hb dX0_fairLevel_60 (by decide) (fun c60 => ?_) (fun c60 => ?_)
            · refine lv_iinc (v := (nI (k + 1))) (lv' := [(3, .int (nI (k + 1))), (5, .int ((X0_usedAtLevel qph z1 n f ((nI k) + 1)) - (X0_usedAtLevel qph z1 n f (nI k)))), (4, .int (X0_usedAtLevel qph z1 n f (nI k))), (0, .ref h), (1, .int f), (2, .int ((qfu f.toNatClampNeg) - (X0_givenAtAllPhases qph z2 n)))]) hx hb dX0_fairLevel_81 hl (k := 5) rfl (nI_1 k) (by decide) rfl (fun ls hl => ?_)
              refine lv_goto (tgt := 22) hx hb dX0_fairLevel_84 (by decide) ?_
              have hP9 := hP; have hD9 := hD; have hl9 := hl; have hR9 := hR; have ih9 := ih
              subst hz1 hz2 hz3 hz4
              exact ih9 (k + 1)  (by omega) (by rw [← hR9, X0_fairLevel_L22, if_neg c51, if_pos c60])  H locs ls hP9 hD9 hS (lv_sub hl9 [3, 4, 5, 0] rfl)
            · refine lv_sipush (v := 1000) hx hb dX0_fairLevel_63 (by decide) ?_
              refine lv_iload_n hx hb dX0_fairLevel_66 rfl (lv_at hl 5 rfl) ?_
              refine lv_imul hx hb dX0_fairLevel_67 ?_
              refine lv_sipush (v := 1000) hx hb dX0_fairLevel_68 (by decide) ?_
              refine lv_iload_n hx hb dX0_fairLevel_71 rfl (lv_at hl 4 rfl) ?_
              refine lv_iload hx hb dX0_fairLevel_72 (lv_at hl 1 rfl) ?_
              refine lv_isub hx hb dX0_fairLevel_74 ?_
              refine lv_imul hx hb dX0_fairLevel_75 ?_
              refine lv_iload hx hb dX0_fairLevel_76 (lv_at hl 0 rfl) ?_
              refine lv_idiv hx hb dX0_fairLevel_78 (nz_le c51) ?_
              refine lv_iadd hx hb dX0_fairLevel_79 ?_
              have hP9 := hP; have hD9 := hD; have hR9 := hR
              subst hz1 hz2 hz3 hz4
              have hP8 : va_P (dC, dI) vwCl (xW cI cZ h a qph qgr qne qap qle qfu qpc qgd qri qnw qtk qsv ((X0_fairLevel qph qgr qne qap qle qfu qgd qri qnw qwa qgi qlo qtu n f).2.1) ((X0_fairLevel qph qgr qne qap qle qfu qgd qri qnw qwa qgi qlo qtu n f).2.2.1) ((X0_fairLevel qph qgr qne qap qle qfu qgd qri qnw qwa qgi qlo qtu n f).2.2.2.1) ((X0_fairLevel qph qgr qne qap qle qfu qgd qri qnw qwa qgi qlo qtu n f).2.2.2.2)) H := by rw [← hR9, X0_fairLevel_L22, if_neg c51, if_neg c60]; exact hP9
              have hD8 : va_D A (xW cI cZ h a qph qgr qne qap qle qfu qpc qgd qri qnw qtk qsv ((X0_fairLevel qph qgr qne qap qle qfu qgd qri qnw qwa qgi qlo qtu n f).2.1) ((X0_fairLevel qph qgr qne qap qle qfu qgd qri qnw qwa qgi qlo qtu n f).2.2.1) ((X0_fairLevel qph qgr qne qap qle qfu qgd qri qnw qwa qgi qlo qtu n f).2.2.2.1) ((X0_fairLevel qph qgr qne qap qle qfu qgd qri qnw qwa qgi qlo qtu n f).2.2.2.2)) := by rw [← hR9, X0_fairLevel_L22, if_neg c51, if_neg c60]; exact hD9
              exact hret H locs 80 ls ((1000 * (nI k)) + ((1000 * (((qfu f.toNatClampNeg) - (X0_givenAtAllPhases qph ((X0_shareCurrents qph qgr qne qap qle qfu qgd qri qnw qwa qgi qlo qtu n).2.1) n)) - (X0_usedAtLevel qph ((X0_shareCurrents qph qgr qne qap qle qfu qgd qri qnw qwa qgi qlo qtu n).1) n f (nI k)))) / ((X0_usedAtLevel qph ((X0_shareCurrents qph qgr qne qap qle qfu qgd qri qnw qwa qgi qlo qtu n).1) n f ((nI k) + 1)) - (X0_usedAtLevel qph ((X0_shareCurrents qph qgr qne qap qle qfu qgd qri qnw qwa qgi qlo qtu n).1) n f (nI k))))) hS hP8 hD8 (by rw [← hR9, X0_fairLevel_L22, if_neg c51, if_neg c60]) dX0_fairLevel_80
      exact loop22 32 0  (by omega) (by rw [X0_fairLevel, if_pos c1])  H locs ls hP hD hS (lv_sub hl [2, 3, 1, 0] rfl)
    · rw [X0_fairLevel_T, if_neg c1] at hok
      exact absurd hok (by decide)
  exact hW _ _ hP hD hS
abbrev rmxX0_fairLevel : Room := { frames := 7, cells := 1, slots := 6, locals := 102 }
set_option maxHeartbeats 4000000 in
set_option maxRecDepth 100000 in
theorem cx_X0_fairLevel (l : Launch) (hl0 : l.stackTraces = false) (dC : Nat → ClassId) (dI : Nat → Nat → Nat) (cI cZ : ClassId) (h : Nat) (a : Nat → Nat) (qph : AR) (qgr : AR) (qne : AR) (qap : AR) (qle : AR) (qfu : AR) (qpc : Int32) (qgd : Int32) (qri : Int32) (qnw : Int32) (qtk : Int32) (qsv : Int32) (qwa : AR) (qgi : AR) (qlo : AR) (qtu : AR) (n : Nat) (f : Int32) (hpc : qpc = nI n) (hn : n ≤ 8) (hbad : ¬ X0_fairLevel_T n f = 0) : Kx l yX0_fairLevel wsX0_fairLevel rmxX0_fairLevel dC dI cI cZ [.ref h, .int f] (xW cI cZ h a qph qgr qne qap qle qfu qpc qgd qri qnw qtk qsv qwa qgi qlo qtu) (fun E => (X0_fairLevel_T n f = 1 ∧ E = nIA)) := by
  refine k_enter_x (cc := cX0_fairLevel) (maxL := 6) (ret := some .int) (by decide) rfl (Nat.le_of_ble_eq_true rfl) ?_
  intro p e s m below meth c A ls hC hlocks htab hK hNs hZ hP hD hS hA hl
  generalize List.toArray _ = args at hC ⊢
  obtain ⟨hx, hb, hml, hown, hts⟩ := id hC
  have hl : lv_has ls 6 [(0, .ref h), (1, .int f)] := hl
  have hP : va_P (dC, dI) vwCl (xW cI cZ h a qph qgr qne qap qle qfu qpc qgd qri qnw qtk qsv qwa qgi qlo qtu) s.heap := hP
  refine lv_iload_n hx hb dX0_fairLevel_0 rfl (lv_at hl 1 rfl) ?_
  by_cases c1 : (X0_requirePhase_T f) = 0
  · refine k_callsv (rest := []) (As := [.int f]) hC (c_X0_requirePhase l dC dI cI cZ (xW cI cZ h a qph qgr qne qap qle qfu qpc qgd qri qnw qtk qsv qwa qgi qlo qtu) f c1) (va_cwS 1 hts gX0_fairLevel_X0_requirePhase rfl rfl rfl hd_X0_requirePhase ⟨Nat.le_of_ble_eq_true rfl, Nat.le_of_ble_eq_true rfl⟩) hK hP hD hS hA rfl hl.1 (Nat.le_of_ble_eq_true rfl) dX0_fairLevel_1 rfl ⟨Nat.zero_le _, Nat.zero_le _⟩ (fun H locs hP hD hS => ?_)
    exact absurd (by rw [X0_fairLevel_T, if_pos c1]) hbad
  · refine kx_callS (rest := []) (As := [.int f]) hC (cx_X0_requirePhase l hl0 dC dI cI cZ (xW cI cZ h a qph qgr qne qap qle qfu qpc qgd qri qnw qtk qsv qwa qgi qlo qtu) f c1) (va_cwS 1 hts gX0_fairLevel_X0_requirePhase rfl rfl rfl hd_X0_requirePhase ⟨Nat.le_of_ble_eq_true rfl, Nat.le_of_ble_eq_true rfl⟩) hK hNs hZ hP hD hS hA rfl hl.1 (Nat.le_of_ble_eq_true rfl) dX0_fairLevel_1 rfl ⟨Nat.le_of_ble_eq_true rfl, Nat.le_of_ble_eq_true rfl⟩ (fun E ce q H locs hex hP hD hS hcell hv hcl => ?_)
    exact kx_out htab hlocks hcell hv hcl hS hP hD (⟨by rw [X0_fairLevel_T, if_neg c1], hex.2⟩) (Nat.le_of_ble_eq_true rfl) (Nat.le_of_ble_eq_true rfl)
def X0_canBeReady_L2 (qph : AR) (qgr : AR) (qne : AR) (qap : AR) (qle : AR) (qnw : Int32) (n : Nat) : Nat → Nat → Int32
  | 0, k => 1
  | j + 1, k => (if (qne (nI k).toNatClampNeg) ≤ 0 then X0_canBeReady_L2 qph qgr qne qap qle qnw n  j (k + 1)  else (if 0 ≤ (X0_laxityAt qph qgr qne qap qle qnw (nI k)) then X0_canBeReady_L2 qph qgr qne qap qle qnw n  j (k + 1)  else 0))
def X0_canBeReady (qph : AR) (qgr : AR) (qne : AR) (qap : AR) (qle : AR) (qnw : Int32) (n : Nat) : Int32 := (X0_canBeReady_L2 qph qgr qne qap qle qnw n  n 0 )
abbrev rmX0_canBeReady : Room := { frames := 3, cells := 0, slots := 0, locals := 56 }
theorem hd_X0_canBeReady : yX0_canBeReady.cls = RX0 ∧ yX0_canBeReady.cls ≠ "java/lang/invoke/MethodHandle" ∧ yX0_canBeReady.cls ≠ "java/lang/invoke/VarHandle" ∧ (parseMethodDescriptor yX0_canBeReady.desc).map (fun d => d.parameters.length) = some 0 := by decide +kernel
set_option maxHeartbeats 4000000 in
set_option maxRecDepth 100000 in
theorem c_X0_canBeReady (l : Launch) (dC : Nat → ClassId) (dI : Nat → Nat → Nat) (cI cZ : ClassId) (h : Nat) (a : Nat → Nat) (qph : AR) (qgr : AR) (qne : AR) (qap : AR) (qle : AR) (qfu : AR) (qpc : Int32) (qgd : Int32) (qri : Int32) (qnw : Int32) (qtk : Int32) (qsv : Int32) (qwa : AR) (qgi : AR) (qlo : AR) (qtu : AR) (n : Nat) (hpc : qpc = nI n) (hn : n ≤ 8) : Ki l yX0_canBeReady wsX0_canBeReady rmX0_canBeReady dC dI cI cZ [.ref h] (xW cI cZ h a qph qgr qne qap qle qfu qpc qgd qri qnw qtk qsv qwa qgi qlo qtu) (xW cI cZ h a qph qgr qne qap qle qfu qpc qgd qri qnw qtk qsv qwa qgi qlo qtu) (X0_canBeReady qph qgr qne qap qle qnw n) := by
  refine k_enter_i (cc := cX0_canBeReady) (maxL := 2) (ret := some .boolean) (by decide) rfl (Nat.le_of_ble_eq_true rfl) ?_
  intro p e s m below meth c A ls hC hr hlocks hK hP hD hS hA hl
  generalize List.toArray _ = args at hC ⊢
  obtain ⟨hx, hb, hml, hown, hts⟩ := id hC
  have hret : ∀ (H : Heap) (locs : List Loc) (pc : Nat) (ls : Array Slot) (r : Int32), va_S A s.heap H locs → va_P (dC, dI) vwCl (xW cI cZ h a qph qgr qne qap qle qfu qpc qgd qri qnw qtk qsv qwa qgi qlo qtu) H → va_D A (xW cI cZ h a qph qgr qne qap qle qfu qpc qgd qri qnw qtk qsv qwa qgi qlo qtu) → r = (X0_canBeReady qph qgr qne qap qle qnw n) → (r = 0 ∨ r = 1) → decode cX0_canBeReady pc = .ok (.ireturn, 1) → W p l e rmX0_canBeReady s m args below meth c H locs 0 0 (MQ below (va_Qi (fun r (_ : Unit) => r = (X0_canBeReady qph qgr qne qap qle qnw n)) (kBeh dC dI A (xW cI cZ h a qph qgr qne qap qle qfu qpc qgd qri qnw qtk qsv qwa qgi qlo qtu)) A) args s 0 0 A) (F0 m pc ls [.int r]) := fun H locs pc ls r hS hP hD hv hz d => k_zret hx hb hr hlocks hS hP hD hv hz d
  generalize MQ below _ _ _ _ _ _ = Q at hret ⊢
  have hin : ∀ w ∈ wsX00, w ∈ wsX0_canBeReady := by decide +kernel
  have hw0 := hts (.fieldLink RX0 55 "ChargePark" "pointCount" "I") (by decide +kernel)
  have hw1 := hts (.fieldLink RX0 16 "ChargePark" "needOf" "[I") (by decide +kernel)
  have hl : lv_has ls 2 [(0, .ref h)] := hl
  have hP : va_P (dC, dI) vwCl (xW cI cZ h a qph qgr qne qap qle qfu qpc qgd qri qnw qtk qsv qwa qgi qlo qtu) s.heap := hP
  have hW : ∀ (H : Heap) (locs : List Loc), va_P (dC, dI) vwCl (xW cI cZ h a qph qgr qne qap qle qfu qpc qgd qri qnw qtk qsv qwa qgi qlo qtu) H → va_D A (xW cI cZ h a qph qgr qne qap qle qfu qpc qgd qri qnw qtk qsv qwa qgi qlo qtu) → va_S A s.heap H locs → W p l e rmX0_canBeReady s m args below meth c H locs 0 0 Q (F0 m 0 ls []) := by
    intro H locs hP hD hS
    refine lv_iconst (v := 0) hx hb dX0_canBeReady_0 (by decide) ?_
    refine lv_istore_n (lv' := [(1, .int 0), (0, .ref h)]) hx hb dX0_canBeReady_1 rfl hl (by decide) rfl (fun ls hl => ?_)
    have loop2 : ∀ (j k : Nat), k + j = n → X0_canBeReady_L2 qph qgr qne qap qle qnw n  j k  = (X0_canBeReady qph qgr qne qap qle qnw n) → ∀ (H : Heap) (locs : List Loc) (ls : Array Slot), va_P (dC, dI) vwCl (xW cI cZ h a qph qgr qne qap qle qfu qpc qgd qri qnw qtk qsv qwa qgi qlo qtu) H → va_D A (xW cI cZ h a qph qgr qne qap qle qfu qpc qgd qri qnw qtk qsv qwa qgi qlo qtu) → va_S A s.heap H locs → lv_has ls 2 [(0, .ref h), (1, .int (nI k))] → W p l e rmX0_canBeReady s m args below meth c H locs 0 0 Q (F0 m 2 ls []) := by
      intro j
      induction j with
      | zero =>
        intro k  hk hR  H locs ls hP hD hS hl
        refine lv_iload_n hx hb dX0_canBeReady_2 rfl (lv_at hl 1 rfl) ?_
        refine lv_aload_n hx hb dX0_canBeReady_3 rfl (lv_at hl 0 rfl) ?_
        refine va_get (D := (dC, dI)) (ci := 0) (v := .int qpc) (C := RX0) (T := TX0) (N := 16) hx hb hts hin hown hK hP 0 rfl rfl 6 (by decide) hw0 (fun _ h9 => h9) rfl dX0_canBeReady_4 ?_
        refine lv_icmp_ge (tgt := 35) hx hb dX0_canBeReady_7 (by decide) (fun _ => ?_) (fun c => absurd (by rw [hpc]; exact nI_le (by omega) (by omega)) c)
        refine lv_iconst (v := 1) hx hb dX0_canBeReady_35 (by decide) ?_
        exact hret H locs 36 ls 1 hS hP hD (by rw [← hR, X0_canBeReady_L2]) (Or.inr rfl) dX0_canBeReady_36
      | succ j ih =>
        intro k  hk hR  H locs ls hP hD hS hl
        refine lv_iload_n hx hb dX0_canBeReady_2 rfl (lv_at hl 1 rfl) ?_
        refine lv_aload_n hx hb dX0_canBeReady_3 rfl (lv_at hl 0 rfl) ?_
        refine va_get (D := (dC, dI)) (ci := 0) (v := .int qpc) (C := RX0) (T := TX0) (N := 16) hx hb hts hin hown hK hP 0 rfl rfl 6 (by decide) hw0 (fun _ h9 => h9) rfl dX0_canBeReady_4 ?_
        refine lv_icmp_ge (tgt := 35) hx hb dX0_canBeReady_7 (by decide) (fun c => absurd c (by rw [hpc]; exact nI_ge (by omega) (by omega))) (fun _ => ?_)
        refine lv_aload_n hx hb dX0_canBeReady_10 rfl (lv_at hl 0 rfl) ?_
        refine va_get (D := (dC, dI)) (ci := 0) (v := .ref (a 2)) (C := RX0) (T := TX0) (N := 16) hx hb hts hin hown hK hP 0 rfl rfl 2 (by decide) hw1 (fun _ h9 => h9) rfl dX0_canBeReady_11 ?_
        refine lv_iload_n hx hb dX0_canBeReady_14 rfl (lv_at hl 1 rfl) ?_
        refine va_iald (f := qne) hx hb hK hP 3 0 rfl rfl (vp_in_nI (by omega) (by decide)) dX0_canBeReady_15 ?_
        refine lv_if_le (tgt := 29) hx hb dX0_canBeReady_16 (by decide) (fun c16 => ?_) (fun c16 => ?_)
        · refine lv_iinc (v := (nI (k + 1))) (lv' := [(1, .int (nI (k + 1))), (0, .ref h)]) hx hb dX0_canBeReady_29 hl (k := 1) rfl (nI_1 k) (by decide) rfl (fun ls hl => ?_)
          refine lv_goto (tgt := 2) hx hb dX0_canBeReady_32 (by decide) ?_
          exact ih (k + 1)  (by omega) (by rw [← hR, X0_canBeReady_L2, if_pos c16])  H locs ls hP hD hS (lv_sub hl [1, 0] rfl)
        · refine lv_aload_n hx hb dX0_canBeReady_19 rfl (lv_at hl 0 rfl) ?_
          refine lv_iload_n hx hb dX0_canBeReady_20 rfl (lv_at hl 1 rfl) ?_
          refine k_calli (rest := []) (q0 := 0) hC (c_X0_laxityAt l dC dI cI cZ h a qph qgr qne qap qle qfu qpc qgd qri qnw qtk qsv qwa qgi qlo qtu  (nI k) (vp_in_nI (by omega) (by decide))) (cwV 1 hts gX0_canBeReady_X0_laxityAt rfl rfl rfl hd_X0_laxityAt ⟨Nat.le_of_ble_eq_true rfl, Nat.le_of_ble_eq_true rfl⟩) hK hP hD hS hA rfl rfl rfl hl.1 (Nat.le_of_ble_eq_true rfl) dX0_canBeReady_21 rfl ⟨Nat.zero_le _, Nat.zero_le _⟩ (fun H locs hP hD hS => ?_)
          refine lv_if_ge (tgt := 29) hx hb dX0_canBeReady_24 (by decide) (fun c24 => ?_) (fun c24 => ?_)
          · refine lv_iinc (v := (nI (k + 1))) (lv' := [(1, .int (nI (k + 1))), (0, .ref h)]) hx hb dX0_canBeReady_29 hl (k := 1) rfl (nI_1 k) (by decide) rfl (fun ls hl => ?_)
            refine lv_goto (tgt := 2) hx hb dX0_canBeReady_32 (by decide) ?_
            exact ih (k + 1)  (by omega) (by rw [← hR, X0_canBeReady_L2, if_neg c16, if_pos c24])  H locs ls hP hD hS (lv_sub hl [1, 0] rfl)
          · refine lv_iconst (v := 0) hx hb dX0_canBeReady_27 (by decide) ?_
            exact hret H locs 28 ls 0 hS hP hD (by rw [← hR, X0_canBeReady_L2, if_neg c16, if_neg c24]) (Or.inl rfl) dX0_canBeReady_28
    exact loop2 n 0  (by omega) (by rw [X0_canBeReady])  H locs ls hP hD hS (lv_sub hl [1, 0] rfl)
  exact hW _ _ hP hD hS
