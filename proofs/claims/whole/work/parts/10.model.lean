def X1_point (rpt : Int32) (rph : AR) (rgr : AR) (n : Nat) (f : Int32) (g : Int32) : Int32 × Int32 × AR × AR × Int32 := (if (X1_isIn f 0 3) = 0 then (0, rpt, rph, rgr, 1) else (if (X1_isIn g 6 32) = 0 then (0, rpt, rph, rgr, 1) else (if rpt = 8 then (0, rpt, rph, rgr, 2) else (((rpt + 1) - 1), (rpt + 1), (upd rph rpt.toNatClampNeg f), (upd rgr rpt.toNatClampNeg g), 0))))
abbrev rmX1_point : Room := { frames := 1, cells := 0, slots := 0, locals := 22 }
theorem hd_X1_point : yX1_point.cls = RX1 ∧ yX1_point.cls ≠ "java/lang/invoke/MethodHandle" ∧ yX1_point.cls ≠ "java/lang/invoke/VarHandle" ∧ (parseMethodDescriptor yX1_point.desc).map (fun d => d.parameters.length) = some 2 := by decide +kernel
set_option maxHeartbeats 4000000 in
set_option maxRecDepth 100000 in
theorem c_X1_point (l : Launch) (dC : Nat → ClassId) (dI : Nat → Nat → Nat) (cI cZ : ClassId) (h : Nat) (a : Nat → Nat) (rpt : Int32) (rph : AR) (rgr : AR) (rca : AR) (rne : AR) (rap : AR) (rle : AR) (rfu : AR) (rba : Int32) (rru : Int32) (rti : Int32) (rtk : Int32) (rsv : Int32) (rgi : AR) (rpa : AR) (rth : Int32) (n : Nat) (f : Int32) (g : Int32) (hpc : rpt = nI n) (hn : n ≤ 8) : Ki l yX1_point wsX1_point rmX1_point dC dI cI cZ [.ref h, .int f, .int g] (mW cI cZ h a rpt rph rgr rca rne rap rle rfu rba rru rti rtk rsv rgi rpa rth) (mW cI cZ h a ((X1_point rpt rph rgr n f g).2.1) ((X1_point rpt rph rgr n f g).2.2.1) ((X1_point rpt rph rgr n f g).2.2.2.1) rca rne rap rle rfu rba rru rti rtk rsv rgi rpa ((X1_point rpt rph rgr n f g).2.2.2.2)) (X1_point rpt rph rgr n f g).1 := by
  refine k_enter_i (cc := cX1_point) (maxL := 3) (ret := some .int) (by decide) rfl (Nat.le_of_ble_eq_true rfl) ?_
  intro p e s m below meth c A ls hC hr hlocks hK hP hD hS hA hl
  generalize List.toArray _ = args at hC ⊢
  obtain ⟨hx, hb, hml, hown, hts⟩ := id hC
  have hret : ∀ (H : Heap) (locs : List Loc) (pc : Nat) (ls : Array Slot) (r : Int32), va_S A s.heap H locs → va_P (dC, dI) vwCl (mW cI cZ h a ((X1_point rpt rph rgr n f g).2.1) ((X1_point rpt rph rgr n f g).2.2.1) ((X1_point rpt rph rgr n f g).2.2.2.1) rca rne rap rle rfu rba rru rti rtk rsv rgi rpa ((X1_point rpt rph rgr n f g).2.2.2.2)) H → va_D A (mW cI cZ h a ((X1_point rpt rph rgr n f g).2.1) ((X1_point rpt rph rgr n f g).2.2.1) ((X1_point rpt rph rgr n f g).2.2.2.1) rca rne rap rle rfu rba rru rti rtk rsv rgi rpa ((X1_point rpt rph rgr n f g).2.2.2.2)) → r = (X1_point rpt rph rgr n f g).1 → decode cX1_point pc = .ok (.ireturn, 1) → W p l e rmX1_point s m args below meth c H locs 0 0 (MQ below (va_Qi (fun r (_ : Unit) => r = (X1_point rpt rph rgr n f g).1) (kBeh dC dI A (mW cI cZ h a ((X1_point rpt rph rgr n f g).2.1) ((X1_point rpt rph rgr n f g).2.2.1) ((X1_point rpt rph rgr n f g).2.2.2.1) rca rne rap rle rfu rba rru rti rtk rsv rgi rpa ((X1_point rpt rph rgr n f g).2.2.2.2))) A) args s 0 0 A) (F0 m pc ls [.int r]) := fun H locs pc ls r hS hP hD hv d => k_iret hx hb hr hlocks hS hP hD hv d
  generalize MQ below _ _ _ _ _ _ = Q at hret ⊢
  have hin : ∀ w ∈ wsX10, w ∈ wsX1_point := by decide +kernel
  have hw0 := hts (.fieldLink RX1 42 "ChargeParkModel" "thrown" "I") (by decide +kernel)
  have hw1 := hts (.fieldLink RX1 49 "ChargeParkModel" "points" "I") (by decide +kernel)
  have hw2 := hts (.fieldLink RX1 7 "ChargeParkModel" "phase" "[I") (by decide +kernel)
  have hw3 := hts (.fieldLink RX1 13 "ChargeParkModel" "greatest" "[I") (by decide +kernel)
  have hl : lv_has ls 3 [(0, .ref h), (1, .int f), (2, .int g)] := hl
  have hP : va_P (dC, dI) vwCl (mW cI cZ h a rpt rph rgr rca rne rap rle rfu rba rru rti rtk rsv rgi rpa rth) s.heap := hP
  have hW : ∀ (H : Heap) (locs : List Loc), va_P (dC, dI) vwCl (mW cI cZ h a rpt rph rgr rca rne rap rle rfu rba rru rti rtk rsv rgi rpa rth) H → va_D A (mW cI cZ h a rpt rph rgr rca rne rap rle rfu rba rru rti rtk rsv rgi rpa rth) → va_S A s.heap H locs → W p l e rmX1_point s m args below meth c H locs 0 0 Q (F0 m 0 ls []) := by
    intro H locs hP hD hS
    refine lv_aload_n hx hb dX1_point_0 rfl (lv_at hl 0 rfl) ?_
    refine lv_iload_n hx hb dX1_point_1 rfl (lv_at hl 1 rfl) ?_
    refine lv_iconst (v := 0) hx hb dX1_point_2 (by decide) ?_
    refine lv_iconst (v := 3) hx hb dX1_point_3 (by decide) ?_
    refine k_calls (rest := [.ref h]) (As := [.int f, .int 0, .int 3]) hC (c_X1_isIn l dC dI cI cZ (mW cI cZ h a rpt rph rgr rca rne rap rle rfu rba rru rti rtk rsv rgi rpa rth) f 0 3 ) (va_cwS 3 hts gX1_point_X1_isIn rfl rfl rfl hd_X1_isIn ⟨Nat.le_of_ble_eq_true rfl, Nat.le_of_ble_eq_true rfl⟩) hK hP hD hS hA rfl hl.1 (Nat.le_of_ble_eq_true rfl) dX1_point_4 rfl ⟨Nat.zero_le _, Nat.zero_le _⟩ (fun H locs hP hD hS => ?_)
    refine lv_if_eq (tgt := 21) hx hb dX1_point_7 (by decide) (fun c7 => ?_) (fun c7 => ?_)
    · refine lv_iconst (v := 1) hx hb dX1_point_21 (by decide) ?_
      refine lv_goto (tgt := 39) hx hb dX1_point_22 (by decide) ?_
      refine va_put (D := (dC, dI)) (ci := 1) (v := .int 1) (ty := .int) (C := RX1) (T := TX1) (N := 16) hx hb hts hin tyX1 tyX1_ok nmX1 hown hK hP hD hS 0 rfl rfl 15 (by decide) hw0 (fun _ h9 => h9) rfl mfd15 rfl rfl (Nat.le_of_ble_eq_true rfl) dX1_point_39 (fun H locs hP hD hS => ?_)
      have hP : va_P (dC, dI) vwCl (mW cI cZ h a rpt rph rgr rca rne rap rle rfu rba rru rti rtk rsv rgi rpa 1) H := hP
      have hD : va_D A (mW cI cZ h a rpt rph rgr rca rne rap rle rfu rba rru rti rtk rsv rgi rpa 1) := hD
      refine lv_aload_n hx hb dX1_point_42 rfl (lv_at hl 0 rfl) ?_
      refine va_get (D := (dC, dI)) (ci := 1) (v := .int 1) (C := RX1) (T := TX1) (N := 16) hx hb hts hin hown hK hP 0 rfl rfl 15 (by decide) hw0 (fun _ h9 => h9) rfl dX1_point_43 ?_
      refine lv_if_le (tgt := 51) hx hb dX1_point_46 (by decide) (fun c => absurd c (by decide)) (fun _ => ?_)
      refine lv_iconst (v := 0) hx hb dX1_point_49 (by decide) ?_
      have hP8 : va_P (dC, dI) vwCl (mW cI cZ h a ((X1_point rpt rph rgr n f g).2.1) ((X1_point rpt rph rgr n f g).2.2.1) ((X1_point rpt rph rgr n f g).2.2.2.1) rca rne rap rle rfu rba rru rti rtk rsv rgi rpa ((X1_point rpt rph rgr n f g).2.2.2.2)) H := by rw [X1_point, if_pos c7]; exact hP
      have hD8 : va_D A (mW cI cZ h a ((X1_point rpt rph rgr n f g).2.1) ((X1_point rpt rph rgr n f g).2.2.1) ((X1_point rpt rph rgr n f g).2.2.2.1) rca rne rap rle rfu rba rru rti rtk rsv rgi rpa ((X1_point rpt rph rgr n f g).2.2.2.2)) := by rw [X1_point, if_pos c7]; exact hD
      exact hret H locs 50 ls 0 hS hP8 hD8 (by rw [X1_point, if_pos c7]) dX1_point_50
    · refine lv_iload_n hx hb dX1_point_10 rfl (lv_at hl 2 rfl) ?_
      refine lv_bipush (v := 6) hx hb dX1_point_11 (by decide) ?_
      refine lv_bipush (v := 32) hx hb dX1_point_13 (by decide) ?_
      refine k_calls (rest := [.ref h]) (As := [.int g, .int 6, .int 32]) hC (c_X1_isIn l dC dI cI cZ (mW cI cZ h a rpt rph rgr rca rne rap rle rfu rba rru rti rtk rsv rgi rpa rth) g 6 32 ) (va_cwS 3 hts gX1_point_X1_isIn rfl rfl rfl hd_X1_isIn ⟨Nat.le_of_ble_eq_true rfl, Nat.le_of_ble_eq_true rfl⟩) hK hP hD hS hA rfl hl.1 (Nat.le_of_ble_eq_true rfl) dX1_point_15 rfl ⟨Nat.zero_le _, Nat.zero_le _⟩ (fun H locs hP hD hS => ?_)
      refine lv_if_ne (tgt := 25) hx hb dX1_point_18 (by decide) (fun c18 => ?_) (fun c18 => ?_)
      · refine lv_aload_n hx hb dX1_point_25 rfl (lv_at hl 0 rfl) ?_
        refine va_get (D := (dC, dI)) (ci := 1) (v := .int rpt) (C := RX1) (T := TX1) (N := 16) hx hb hts hin hown hK hP 0 rfl rfl 0 (by decide) hw1 (fun _ h9 => h9) rfl dX1_point_26 ?_
        refine lv_bipush (v := 8) hx hb dX1_point_29 (by decide) ?_
        refine lv_icmp_ne (tgt := 38) hx hb dX1_point_31 (by decide) (fun c31 => ?_) (fun c31 => ?_)
        · refine lv_iconst (v := 0) hx hb dX1_point_38 (by decide) ?_
          refine va_put (D := (dC, dI)) (ci := 1) (v := .int 0) (ty := .int) (C := RX1) (T := TX1) (N := 16) hx hb hts hin tyX1 tyX1_ok nmX1 hown hK hP hD hS 0 rfl rfl 15 (by decide) hw0 (fun _ h9 => h9) rfl mfd15 rfl rfl (Nat.le_of_ble_eq_true rfl) dX1_point_39 (fun H locs hP hD hS => ?_)
          have hP : va_P (dC, dI) vwCl (mW cI cZ h a rpt rph rgr rca rne rap rle rfu rba rru rti rtk rsv rgi rpa 0) H := hP
          have hD : va_D A (mW cI cZ h a rpt rph rgr rca rne rap rle rfu rba rru rti rtk rsv rgi rpa 0) := hD
          refine lv_aload_n hx hb dX1_point_42 rfl (lv_at hl 0 rfl) ?_
          refine va_get (D := (dC, dI)) (ci := 1) (v := .int 0) (C := RX1) (T := TX1) (N := 16) hx hb hts hin hown hK hP 0 rfl rfl 15 (by decide) hw0 (fun _ h9 => h9) rfl dX1_point_43 ?_
          refine lv_if_le (tgt := 51) hx hb dX1_point_46 (by decide) (fun _ => ?_) (fun c => absurd (by decide) c)
          refine lv_aload_n hx hb dX1_point_51 rfl (lv_at hl 0 rfl) ?_
          refine va_get (D := (dC, dI)) (ci := 1) (v := .ref (a 1)) (C := RX1) (T := TX1) (N := 16) hx hb hts hin hown hK hP 0 rfl rfl 1 (by decide) hw2 (fun _ h9 => h9) rfl dX1_point_52 ?_
          refine lv_aload_n hx hb dX1_point_55 rfl (lv_at hl 0 rfl) ?_
          refine va_get (D := (dC, dI)) (ci := 1) (v := .int rpt) (C := RX1) (T := TX1) (N := 16) hx hb hts hin hown hK hP 0 rfl rfl 0 (by decide) hw1 (fun _ h9 => h9) rfl dX1_point_56 ?_
          refine lv_iload_n hx hb dX1_point_59 rfl (lv_at hl 1 rfl) ?_
          refine va_iast (f := rph) hx hb hK hP hD hS 1 0 rfl rfl (pt_in hpc hn c31) dX1_point_60 (fun H locs hP hD hS => ?_)
          obtain ⟨z1, hz1⟩ : ∃ z : AR, z = (upd rph rpt.toNatClampNeg f) := ⟨_, rfl⟩
          rw [← hz1] at hP hD
          have hP : va_P (dC, dI) vwCl (mW cI cZ h a rpt z1 rgr rca rne rap rle rfu rba rru rti rtk rsv rgi rpa 0) H := hP
          have hD : va_D A (mW cI cZ h a rpt z1 rgr rca rne rap rle rfu rba rru rti rtk rsv rgi rpa 0) := hD
          refine lv_aload_n hx hb dX1_point_61 rfl (lv_at hl 0 rfl) ?_
          refine va_get (D := (dC, dI)) (ci := 1) (v := .ref (a 2)) (C := RX1) (T := TX1) (N := 16) hx hb hts hin hown hK hP 0 rfl rfl 2 (by decide) hw3 (fun _ h9 => h9) rfl dX1_point_62 ?_
          refine lv_aload_n hx hb dX1_point_65 rfl (lv_at hl 0 rfl) ?_
          refine va_get (D := (dC, dI)) (ci := 1) (v := .int rpt) (C := RX1) (T := TX1) (N := 16) hx hb hts hin hown hK hP 0 rfl rfl 0 (by decide) hw1 (fun _ h9 => h9) rfl dX1_point_66 ?_
          refine lv_iload_n hx hb dX1_point_69 rfl (lv_at hl 2 rfl) ?_
          refine va_iast (f := rgr) hx hb hK hP hD hS 2 0 rfl rfl (pt_in hpc hn c31) dX1_point_70 (fun H locs hP hD hS => ?_)
          obtain ⟨z2, hz2⟩ : ∃ z : AR, z = (upd rgr rpt.toNatClampNeg g) := ⟨_, rfl⟩
          rw [← hz2] at hP hD
          have hP : va_P (dC, dI) vwCl (mW cI cZ h a rpt z1 z2 rca rne rap rle rfu rba rru rti rtk rsv rgi rpa 0) H := hP
          have hD : va_D A (mW cI cZ h a rpt z1 z2 rca rne rap rle rfu rba rru rti rtk rsv rgi rpa 0) := hD
          refine lv_aload_n hx hb dX1_point_71 rfl (lv_at hl 0 rfl) ?_
          refine lv_dup hx hb dX1_point_72 rfl ?_
          refine va_get (D := (dC, dI)) (ci := 1) (v := .int rpt) (C := RX1) (T := TX1) (N := 16) hx hb hts hin hown hK hP 0 rfl rfl 0 (by decide) hw1 (fun _ h9 => h9) rfl dX1_point_73 ?_
          refine lv_iconst (v := 1) hx hb dX1_point_76 (by decide) ?_
          refine lv_iadd hx hb dX1_point_77 ?_
          refine va_put (D := (dC, dI)) (ci := 1) (v := .int (rpt + 1)) (ty := .int) (C := RX1) (T := TX1) (N := 16) hx hb hts hin tyX1 tyX1_ok nmX1 hown hK hP hD hS 0 rfl rfl 0 (by decide) hw1 (fun _ h9 => h9) rfl mfd0 rfl rfl (Nat.le_of_ble_eq_true rfl) dX1_point_78 (fun H locs hP hD hS => ?_)
          obtain ⟨z3, hz3⟩ : ∃ z : Int32, z = (rpt + 1) := ⟨_, rfl⟩
          rw [← hz3] at hP hD
          have hP : va_P (dC, dI) vwCl (mW cI cZ h a z3 z1 z2 rca rne rap rle rfu rba rru rti rtk rsv rgi rpa 0) H := hP
          have hD : va_D A (mW cI cZ h a z3 z1 z2 rca rne rap rle rfu rba rru rti rtk rsv rgi rpa 0) := hD
          refine lv_aload_n hx hb dX1_point_81 rfl (lv_at hl 0 rfl) ?_
          refine va_get (D := (dC, dI)) (ci := 1) (v := .int z3) (C := RX1) (T := TX1) (N := 16) hx hb hts hin hown hK hP 0 rfl rfl 0 (by decide) hw1 (fun _ h9 => h9) rfl dX1_point_82 ?_
          refine lv_iconst (v := 1) hx hb dX1_point_85 (by decide) ?_
          refine lv_isub hx hb dX1_point_86 ?_
          have hP9 := hP; have hD9 := hD
          subst hz1 hz2 hz3
          have hP8 : va_P (dC, dI) vwCl (mW cI cZ h a ((X1_point rpt rph rgr n f g).2.1) ((X1_point rpt rph rgr n f g).2.2.1) ((X1_point rpt rph rgr n f g).2.2.2.1) rca rne rap rle rfu rba rru rti rtk rsv rgi rpa ((X1_point rpt rph rgr n f g).2.2.2.2)) H := by rw [X1_point, if_neg c7, if_neg c18, if_neg c31]; exact hP9
          have hD8 : va_D A (mW cI cZ h a ((X1_point rpt rph rgr n f g).2.1) ((X1_point rpt rph rgr n f g).2.2.1) ((X1_point rpt rph rgr n f g).2.2.2.1) rca rne rap rle rfu rba rru rti rtk rsv rgi rpa ((X1_point rpt rph rgr n f g).2.2.2.2)) := by rw [X1_point, if_neg c7, if_neg c18, if_neg c31]; exact hD9
          exact hret H locs 87 ls ((rpt + 1) - 1) hS hP8 hD8 (by rw [X1_point, if_neg c7, if_neg c18, if_neg c31]) dX1_point_87
        · refine lv_iconst (v := 2) hx hb dX1_point_34 (by decide) ?_
          refine lv_goto (tgt := 39) hx hb dX1_point_35 (by decide) ?_
          refine va_put (D := (dC, dI)) (ci := 1) (v := .int 2) (ty := .int) (C := RX1) (T := TX1) (N := 16) hx hb hts hin tyX1 tyX1_ok nmX1 hown hK hP hD hS 0 rfl rfl 15 (by decide) hw0 (fun _ h9 => h9) rfl mfd15 rfl rfl (Nat.le_of_ble_eq_true rfl) dX1_point_39 (fun H locs hP hD hS => ?_)
          have hP : va_P (dC, dI) vwCl (mW cI cZ h a rpt rph rgr rca rne rap rle rfu rba rru rti rtk rsv rgi rpa 2) H := hP
          have hD : va_D A (mW cI cZ h a rpt rph rgr rca rne rap rle rfu rba rru rti rtk rsv rgi rpa 2) := hD
          refine lv_aload_n hx hb dX1_point_42 rfl (lv_at hl 0 rfl) ?_
          refine va_get (D := (dC, dI)) (ci := 1) (v := .int 2) (C := RX1) (T := TX1) (N := 16) hx hb hts hin hown hK hP 0 rfl rfl 15 (by decide) hw0 (fun _ h9 => h9) rfl dX1_point_43 ?_
          refine lv_if_le (tgt := 51) hx hb dX1_point_46 (by decide) (fun c => absurd c (by decide)) (fun _ => ?_)
          refine lv_iconst (v := 0) hx hb dX1_point_49 (by decide) ?_
          have hP8 : va_P (dC, dI) vwCl (mW cI cZ h a ((X1_point rpt rph rgr n f g).2.1) ((X1_point rpt rph rgr n f g).2.2.1) ((X1_point rpt rph rgr n f g).2.2.2.1) rca rne rap rle rfu rba rru rti rtk rsv rgi rpa ((X1_point rpt rph rgr n f g).2.2.2.2)) H := by rw [X1_point, if_neg c7, if_neg c18, if_pos c31]; exact hP
          have hD8 : va_D A (mW cI cZ h a ((X1_point rpt rph rgr n f g).2.1) ((X1_point rpt rph rgr n f g).2.2.1) ((X1_point rpt rph rgr n f g).2.2.2.1) rca rne rap rle rfu rba rru rti rtk rsv rgi rpa ((X1_point rpt rph rgr n f g).2.2.2.2)) := by rw [X1_point, if_neg c7, if_neg c18, if_pos c31]; exact hD
          exact hret H locs 50 ls 0 hS hP8 hD8 (by rw [X1_point, if_neg c7, if_neg c18, if_pos c31]) dX1_point_50
      · refine lv_iconst (v := 1) hx hb dX1_point_21 (by decide) ?_
        refine lv_goto (tgt := 39) hx hb dX1_point_22 (by decide) ?_
        refine va_put (D := (dC, dI)) (ci := 1) (v := .int 1) (ty := .int) (C := RX1) (T := TX1) (N := 16) hx hb hts hin tyX1 tyX1_ok nmX1 hown hK hP hD hS 0 rfl rfl 15 (by decide) hw0 (fun _ h9 => h9) rfl mfd15 rfl rfl (Nat.le_of_ble_eq_true rfl) dX1_point_39 (fun H locs hP hD hS => ?_)
        have hP : va_P (dC, dI) vwCl (mW cI cZ h a rpt rph rgr rca rne rap rle rfu rba rru rti rtk rsv rgi rpa 1) H := hP
        have hD : va_D A (mW cI cZ h a rpt rph rgr rca rne rap rle rfu rba rru rti rtk rsv rgi rpa 1) := hD
        refine lv_aload_n hx hb dX1_point_42 rfl (lv_at hl 0 rfl) ?_
        refine va_get (D := (dC, dI)) (ci := 1) (v := .int 1) (C := RX1) (T := TX1) (N := 16) hx hb hts hin hown hK hP 0 rfl rfl 15 (by decide) hw0 (fun _ h9 => h9) rfl dX1_point_43 ?_
        refine lv_if_le (tgt := 51) hx hb dX1_point_46 (by decide) (fun c => absurd c (by decide)) (fun _ => ?_)
        refine lv_iconst (v := 0) hx hb dX1_point_49 (by decide) ?_
        have hP8 : va_P (dC, dI) vwCl (mW cI cZ h a ((X1_point rpt rph rgr n f g).2.1) ((X1_point rpt rph rgr n f g).2.2.1) ((X1_point rpt rph rgr n f g).2.2.2.1) rca rne rap rle rfu rba rru rti rtk rsv rgi rpa ((X1_point rpt rph rgr n f g).2.2.2.2)) H := by rw [X1_point, if_neg c7, if_pos c18]; exact hP
        have hD8 : va_D A (mW cI cZ h a ((X1_point rpt rph rgr n f g).2.1) ((X1_point rpt rph rgr n f g).2.2.1) ((X1_point rpt rph rgr n f g).2.2.2.1) rca rne rap rle rfu rba rru rti rtk rsv rgi rpa ((X1_point rpt rph rgr n f g).2.2.2.2)) := by rw [X1_point, if_neg c7, if_pos c18]; exact hD
        exact hret H locs 50 ls 0 hS hP8 hD8 (by rw [X1_point, if_neg c7, if_pos c18]) dX1_point_50
  exact hW _ _ hP hD hS
def X1_fuse (rfu : AR) (f : Int32) (x : Int32) : Int32 × AR × Int32 := (if (X1_isIn f 0 2) = 0 then (0, rfu, 1) else (if (X1_isIn x 0 100) = 0 then (0, rfu, 1) else ((rfu f.toNatClampNeg), (upd rfu f.toNatClampNeg x), 0)))
abbrev rmX1_fuse : Room := { frames := 1, cells := 0, slots := 0, locals := 22 }
theorem hd_X1_fuse : yX1_fuse.cls = RX1 ∧ yX1_fuse.cls ≠ "java/lang/invoke/MethodHandle" ∧ yX1_fuse.cls ≠ "java/lang/invoke/VarHandle" ∧ (parseMethodDescriptor yX1_fuse.desc).map (fun d => d.parameters.length) = some 2 := by decide +kernel
set_option maxHeartbeats 4000000 in
set_option maxRecDepth 100000 in
theorem c_X1_fuse (l : Launch) (dC : Nat → ClassId) (dI : Nat → Nat → Nat) (cI cZ : ClassId) (h : Nat) (a : Nat → Nat) (rpt : Int32) (rph : AR) (rgr : AR) (rca : AR) (rne : AR) (rap : AR) (rle : AR) (rfu : AR) (rba : Int32) (rru : Int32) (rti : Int32) (rtk : Int32) (rsv : Int32) (rgi : AR) (rpa : AR) (rth : Int32) (f : Int32) (x : Int32) : Ki l yX1_fuse wsX1_fuse rmX1_fuse dC dI cI cZ [.ref h, .int f, .int x] (mW cI cZ h a rpt rph rgr rca rne rap rle rfu rba rru rti rtk rsv rgi rpa rth) (mW cI cZ h a rpt rph rgr rca rne rap rle ((X1_fuse rfu f x).2.1) rba rru rti rtk rsv rgi rpa ((X1_fuse rfu f x).2.2)) (X1_fuse rfu f x).1 := by
  refine k_enter_i (cc := cX1_fuse) (maxL := 4) (ret := some .int) (by decide) rfl (Nat.le_of_ble_eq_true rfl) ?_
  intro p e s m below meth c A ls hC hr hlocks hK hP hD hS hA hl
  generalize List.toArray _ = args at hC ⊢
  obtain ⟨hx, hb, hml, hown, hts⟩ := id hC
  have hret : ∀ (H : Heap) (locs : List Loc) (pc : Nat) (ls : Array Slot) (r : Int32), va_S A s.heap H locs → va_P (dC, dI) vwCl (mW cI cZ h a rpt rph rgr rca rne rap rle ((X1_fuse rfu f x).2.1) rba rru rti rtk rsv rgi rpa ((X1_fuse rfu f x).2.2)) H → va_D A (mW cI cZ h a rpt rph rgr rca rne rap rle ((X1_fuse rfu f x).2.1) rba rru rti rtk rsv rgi rpa ((X1_fuse rfu f x).2.2)) → r = (X1_fuse rfu f x).1 → decode cX1_fuse pc = .ok (.ireturn, 1) → W p l e rmX1_fuse s m args below meth c H locs 0 0 (MQ below (va_Qi (fun r (_ : Unit) => r = (X1_fuse rfu f x).1) (kBeh dC dI A (mW cI cZ h a rpt rph rgr rca rne rap rle ((X1_fuse rfu f x).2.1) rba rru rti rtk rsv rgi rpa ((X1_fuse rfu f x).2.2))) A) args s 0 0 A) (F0 m pc ls [.int r]) := fun H locs pc ls r hS hP hD hv d => k_iret hx hb hr hlocks hS hP hD hv d
  generalize MQ below _ _ _ _ _ _ = Q at hret ⊢
  have hin : ∀ w ∈ wsX10, w ∈ wsX1_fuse := by decide +kernel
  have hw0 := hts (.fieldLink RX1 42 "ChargeParkModel" "thrown" "I") (by decide +kernel)
  have hw1 := hts (.fieldLink RX1 29 "ChargeParkModel" "fuse" "[I") (by decide +kernel)
  have hl : lv_has ls 4 [(0, .ref h), (1, .int f), (2, .int x)] := hl
  have hP : va_P (dC, dI) vwCl (mW cI cZ h a rpt rph rgr rca rne rap rle rfu rba rru rti rtk rsv rgi rpa rth) s.heap := hP
  have hW : ∀ (H : Heap) (locs : List Loc), va_P (dC, dI) vwCl (mW cI cZ h a rpt rph rgr rca rne rap rle rfu rba rru rti rtk rsv rgi rpa rth) H → va_D A (mW cI cZ h a rpt rph rgr rca rne rap rle rfu rba rru rti rtk rsv rgi rpa rth) → va_S A s.heap H locs → W p l e rmX1_fuse s m args below meth c H locs 0 0 Q (F0 m 0 ls []) := by
    intro H locs hP hD hS
    refine lv_aload_n hx hb dX1_fuse_0 rfl (lv_at hl 0 rfl) ?_
    refine lv_iload_n hx hb dX1_fuse_1 rfl (lv_at hl 1 rfl) ?_
    refine lv_iconst (v := 0) hx hb dX1_fuse_2 (by decide) ?_
    refine lv_iconst (v := 2) hx hb dX1_fuse_3 (by decide) ?_
    refine k_calls (rest := [.ref h]) (As := [.int f, .int 0, .int 2]) hC (c_X1_isIn l dC dI cI cZ (mW cI cZ h a rpt rph rgr rca rne rap rle rfu rba rru rti rtk rsv rgi rpa rth) f 0 2 ) (va_cwS 3 hts gX1_fuse_X1_isIn rfl rfl rfl hd_X1_isIn ⟨Nat.le_of_ble_eq_true rfl, Nat.le_of_ble_eq_true rfl⟩) hK hP hD hS hA rfl hl.1 (Nat.le_of_ble_eq_true rfl) dX1_fuse_4 rfl ⟨Nat.zero_le _, Nat.zero_le _⟩ (fun H locs hP hD hS => ?_)
    refine lv_if_eq (tgt := 24) hx hb dX1_fuse_7 (by decide) (fun c7 => ?_) (fun c7 => ?_)
    · refine lv_iconst (v := 1) hx hb dX1_fuse_24 (by decide) ?_
      refine va_put (D := (dC, dI)) (ci := 1) (v := .int 1) (ty := .int) (C := RX1) (T := TX1) (N := 16) hx hb hts hin tyX1 tyX1_ok nmX1 hown hK hP hD hS 0 rfl rfl 15 (by decide) hw0 (fun _ h9 => h9) rfl mfd15 rfl rfl (Nat.le_of_ble_eq_true rfl) dX1_fuse_25 (fun H locs hP hD hS => ?_)
      have hP : va_P (dC, dI) vwCl (mW cI cZ h a rpt rph rgr rca rne rap rle rfu rba rru rti rtk rsv rgi rpa 1) H := hP
      have hD : va_D A (mW cI cZ h a rpt rph rgr rca rne rap rle rfu rba rru rti rtk rsv rgi rpa 1) := hD
      refine lv_aload_n hx hb dX1_fuse_28 rfl (lv_at hl 0 rfl) ?_
      refine va_get (D := (dC, dI)) (ci := 1) (v := .int 1) (C := RX1) (T := TX1) (N := 16) hx hb hts hin hown hK hP 0 rfl rfl 15 (by decide) hw0 (fun _ h9 => h9) rfl dX1_fuse_29 ?_
      refine lv_if_le (tgt := 37) hx hb dX1_fuse_32 (by decide) (fun c => absurd c (by decide)) (fun _ => ?_)
      refine lv_iconst (v := 0) hx hb dX1_fuse_35 (by decide) ?_
      have hP8 : va_P (dC, dI) vwCl (mW cI cZ h a rpt rph rgr rca rne rap rle ((X1_fuse rfu f x).2.1) rba rru rti rtk rsv rgi rpa ((X1_fuse rfu f x).2.2)) H := by rw [X1_fuse, if_pos c7]; exact hP
      have hD8 : va_D A (mW cI cZ h a rpt rph rgr rca rne rap rle ((X1_fuse rfu f x).2.1) rba rru rti rtk rsv rgi rpa ((X1_fuse rfu f x).2.2)) := by rw [X1_fuse, if_pos c7]; exact hD
      exact hret H locs 36 ls 0 hS hP8 hD8 (by rw [X1_fuse, if_pos c7]) dX1_fuse_36
    · refine lv_iload_n hx hb dX1_fuse_10 rfl (lv_at hl 2 rfl) ?_
      refine lv_iconst (v := 0) hx hb dX1_fuse_11 (by decide) ?_
      refine lv_bipush (v := 100) hx hb dX1_fuse_12 (by decide) ?_
      refine k_calls (rest := [.ref h]) (As := [.int x, .int 0, .int 100]) hC (c_X1_isIn l dC dI cI cZ (mW cI cZ h a rpt rph rgr rca rne rap rle rfu rba rru rti rtk rsv rgi rpa rth) x 0 100 ) (va_cwS 3 hts gX1_fuse_X1_isIn rfl rfl rfl hd_X1_isIn ⟨Nat.le_of_ble_eq_true rfl, Nat.le_of_ble_eq_true rfl⟩) hK hP hD hS hA rfl hl.1 (Nat.le_of_ble_eq_true rfl) dX1_fuse_14 rfl ⟨Nat.zero_le _, Nat.zero_le _⟩ (fun H locs hP hD hS => ?_)
      refine lv_if_eq (tgt := 24) hx hb dX1_fuse_17 (by decide) (fun c17 => ?_) (fun c17 => ?_)
      · refine lv_iconst (v := 1) hx hb dX1_fuse_24 (by decide) ?_
        refine va_put (D := (dC, dI)) (ci := 1) (v := .int 1) (ty := .int) (C := RX1) (T := TX1) (N := 16) hx hb hts hin tyX1 tyX1_ok nmX1 hown hK hP hD hS 0 rfl rfl 15 (by decide) hw0 (fun _ h9 => h9) rfl mfd15 rfl rfl (Nat.le_of_ble_eq_true rfl) dX1_fuse_25 (fun H locs hP hD hS => ?_)
        have hP : va_P (dC, dI) vwCl (mW cI cZ h a rpt rph rgr rca rne rap rle rfu rba rru rti rtk rsv rgi rpa 1) H := hP
        have hD : va_D A (mW cI cZ h a rpt rph rgr rca rne rap rle rfu rba rru rti rtk rsv rgi rpa 1) := hD
        refine lv_aload_n hx hb dX1_fuse_28 rfl (lv_at hl 0 rfl) ?_
        refine va_get (D := (dC, dI)) (ci := 1) (v := .int 1) (C := RX1) (T := TX1) (N := 16) hx hb hts hin hown hK hP 0 rfl rfl 15 (by decide) hw0 (fun _ h9 => h9) rfl dX1_fuse_29 ?_
        refine lv_if_le (tgt := 37) hx hb dX1_fuse_32 (by decide) (fun c => absurd c (by decide)) (fun _ => ?_)
        refine lv_iconst (v := 0) hx hb dX1_fuse_35 (by decide) ?_
        have hP8 : va_P (dC, dI) vwCl (mW cI cZ h a rpt rph rgr rca rne rap rle ((X1_fuse rfu f x).2.1) rba rru rti rtk rsv rgi rpa ((X1_fuse rfu f x).2.2)) H := by rw [X1_fuse, if_neg c7, if_pos c17]; exact hP
        have hD8 : va_D A (mW cI cZ h a rpt rph rgr rca rne rap rle ((X1_fuse rfu f x).2.1) rba rru rti rtk rsv rgi rpa ((X1_fuse rfu f x).2.2)) := by rw [X1_fuse, if_neg c7, if_pos c17]; exact hD
        exact hret H locs 36 ls 0 hS hP8 hD8 (by rw [X1_fuse, if_neg c7, if_pos c17]) dX1_fuse_36
      · refine lv_iconst (v := 0) hx hb dX1_fuse_20 (by decide) ?_
        refine lv_goto (tgt := 25) hx hb dX1_fuse_21 (by decide) ?_
        refine va_put (D := (dC, dI)) (ci := 1) (v := .int 0) (ty := .int) (C := RX1) (T := TX1) (N := 16) hx hb hts hin tyX1 tyX1_ok nmX1 hown hK hP hD hS 0 rfl rfl 15 (by decide) hw0 (fun _ h9 => h9) rfl mfd15 rfl rfl (Nat.le_of_ble_eq_true rfl) dX1_fuse_25 (fun H locs hP hD hS => ?_)
        have hP : va_P (dC, dI) vwCl (mW cI cZ h a rpt rph rgr rca rne rap rle rfu rba rru rti rtk rsv rgi rpa 0) H := hP
        have hD : va_D A (mW cI cZ h a rpt rph rgr rca rne rap rle rfu rba rru rti rtk rsv rgi rpa 0) := hD
        refine lv_aload_n hx hb dX1_fuse_28 rfl (lv_at hl 0 rfl) ?_
        refine va_get (D := (dC, dI)) (ci := 1) (v := .int 0) (C := RX1) (T := TX1) (N := 16) hx hb hts hin hown hK hP 0 rfl rfl 15 (by decide) hw0 (fun _ h9 => h9) rfl dX1_fuse_29 ?_
        refine lv_if_le (tgt := 37) hx hb dX1_fuse_32 (by decide) (fun _ => ?_) (fun c => absurd (by decide) c)
        refine lv_aload_n hx hb dX1_fuse_37 rfl (lv_at hl 0 rfl) ?_
        refine va_get (D := (dC, dI)) (ci := 1) (v := .ref (a 7)) (C := RX1) (T := TX1) (N := 16) hx hb hts hin hown hK hP 0 rfl rfl 7 (by decide) hw1 (fun _ h9 => h9) rfl dX1_fuse_38 ?_
        refine lv_iload_n hx hb dX1_fuse_41 rfl (lv_at hl 1 rfl) ?_
        refine va_iald (f := rfu) hx hb hK hP 7 0 rfl rfl (isIn_3 c7) dX1_fuse_42 ?_
        refine lv_istore_n (lv' := [(3, .int (rfu f.toNatClampNeg)), (0, .ref h), (1, .int f), (2, .int x)]) hx hb dX1_fuse_43 rfl hl (by decide) rfl (fun ls hl => ?_)
        refine lv_aload_n hx hb dX1_fuse_44 rfl (lv_at hl 1 rfl) ?_
        refine va_get (D := (dC, dI)) (ci := 1) (v := .ref (a 7)) (C := RX1) (T := TX1) (N := 16) hx hb hts hin hown hK hP 0 rfl rfl 7 (by decide) hw1 (fun _ h9 => h9) rfl dX1_fuse_45 ?_
        refine lv_iload_n hx hb dX1_fuse_48 rfl (lv_at hl 2 rfl) ?_
        refine lv_iload_n hx hb dX1_fuse_49 rfl (lv_at hl 3 rfl) ?_
        refine va_iast (f := rfu) hx hb hK hP hD hS 7 0 rfl rfl (isIn_3 c7) dX1_fuse_50 (fun H locs hP hD hS => ?_)
        obtain ⟨z1, hz1⟩ : ∃ z : AR, z = (upd rfu f.toNatClampNeg x) := ⟨_, rfl⟩
        rw [← hz1] at hP hD
        have hP : va_P (dC, dI) vwCl (mW cI cZ h a rpt rph rgr rca rne rap rle z1 rba rru rti rtk rsv rgi rpa 0) H := hP
        have hD : va_D A (mW cI cZ h a rpt rph rgr rca rne rap rle z1 rba rru rti rtk rsv rgi rpa 0) := hD
        refine lv_iload_n hx hb dX1_fuse_51 rfl (lv_at hl 0 rfl) ?_
        have hP9 := hP; have hD9 := hD
        subst hz1
        have hP8 : va_P (dC, dI) vwCl (mW cI cZ h a rpt rph rgr rca rne rap rle ((X1_fuse rfu f x).2.1) rba rru rti rtk rsv rgi rpa ((X1_fuse rfu f x).2.2)) H := by rw [X1_fuse, if_neg c7, if_neg c17]; exact hP9
        have hD8 : va_D A (mW cI cZ h a rpt rph rgr rca rne rap rle ((X1_fuse rfu f x).2.1) rba rru rti rtk rsv rgi rpa ((X1_fuse rfu f x).2.2)) := by rw [X1_fuse, if_neg c7, if_neg c17]; exact hD9
        exact hret H locs 52 ls (rfu f.toNatClampNeg) hS hP8 hD8 (by rw [X1_fuse, if_neg c7, if_neg c17]) dX1_fuse_52
  exact hW _ _ hP hD hS
def X1_balance (rba : Int32) (x : Int32) : Int32 × Int32 × Int32 := (if (X1_isIn x 0 100) = 0 then (0, rba, 1) else (rba, x, 0))
abbrev rmX1_balance : Room := { frames := 1, cells := 0, slots := 0, locals := 22 }
theorem hd_X1_balance : yX1_balance.cls = RX1 ∧ yX1_balance.cls ≠ "java/lang/invoke/MethodHandle" ∧ yX1_balance.cls ≠ "java/lang/invoke/VarHandle" ∧ (parseMethodDescriptor yX1_balance.desc).map (fun d => d.parameters.length) = some 1 := by decide +kernel
set_option maxHeartbeats 4000000 in
set_option maxRecDepth 100000 in
theorem c_X1_balance (l : Launch) (dC : Nat → ClassId) (dI : Nat → Nat → Nat) (cI cZ : ClassId) (h : Nat) (a : Nat → Nat) (rpt : Int32) (rph : AR) (rgr : AR) (rca : AR) (rne : AR) (rap : AR) (rle : AR) (rfu : AR) (rba : Int32) (rru : Int32) (rti : Int32) (rtk : Int32) (rsv : Int32) (rgi : AR) (rpa : AR) (rth : Int32) (x : Int32) : Ki l yX1_balance wsX1_balance rmX1_balance dC dI cI cZ [.ref h, .int x] (mW cI cZ h a rpt rph rgr rca rne rap rle rfu rba rru rti rtk rsv rgi rpa rth) (mW cI cZ h a rpt rph rgr rca rne rap rle rfu ((X1_balance rba x).2.1) rru rti rtk rsv rgi rpa ((X1_balance rba x).2.2)) (X1_balance rba x).1 := by
  refine k_enter_i (cc := cX1_balance) (maxL := 3) (ret := some .int) (by decide) rfl (Nat.le_of_ble_eq_true rfl) ?_
  intro p e s m below meth c A ls hC hr hlocks hK hP hD hS hA hl
  generalize List.toArray _ = args at hC ⊢
  obtain ⟨hx, hb, hml, hown, hts⟩ := id hC
  have hret : ∀ (H : Heap) (locs : List Loc) (pc : Nat) (ls : Array Slot) (r : Int32), va_S A s.heap H locs → va_P (dC, dI) vwCl (mW cI cZ h a rpt rph rgr rca rne rap rle rfu ((X1_balance rba x).2.1) rru rti rtk rsv rgi rpa ((X1_balance rba x).2.2)) H → va_D A (mW cI cZ h a rpt rph rgr rca rne rap rle rfu ((X1_balance rba x).2.1) rru rti rtk rsv rgi rpa ((X1_balance rba x).2.2)) → r = (X1_balance rba x).1 → decode cX1_balance pc = .ok (.ireturn, 1) → W p l e rmX1_balance s m args below meth c H locs 0 0 (MQ below (va_Qi (fun r (_ : Unit) => r = (X1_balance rba x).1) (kBeh dC dI A (mW cI cZ h a rpt rph rgr rca rne rap rle rfu ((X1_balance rba x).2.1) rru rti rtk rsv rgi rpa ((X1_balance rba x).2.2))) A) args s 0 0 A) (F0 m pc ls [.int r]) := fun H locs pc ls r hS hP hD hv d => k_iret hx hb hr hlocks hS hP hD hv d
  generalize MQ below _ _ _ _ _ _ = Q at hret ⊢
  have hin : ∀ w ∈ wsX10, w ∈ wsX1_balance := by decide +kernel
  have hw0 := hts (.fieldLink RX1 42 "ChargeParkModel" "thrown" "I") (by decide +kernel)
  have hw1 := hts (.fieldLink RX1 32 "ChargeParkModel" "balance" "I") (by decide +kernel)
  have hl : lv_has ls 3 [(0, .ref h), (1, .int x)] := hl
  have hP : va_P (dC, dI) vwCl (mW cI cZ h a rpt rph rgr rca rne rap rle rfu rba rru rti rtk rsv rgi rpa rth) s.heap := hP
  have hW : ∀ (H : Heap) (locs : List Loc), va_P (dC, dI) vwCl (mW cI cZ h a rpt rph rgr rca rne rap rle rfu rba rru rti rtk rsv rgi rpa rth) H → va_D A (mW cI cZ h a rpt rph rgr rca rne rap rle rfu rba rru rti rtk rsv rgi rpa rth) → va_S A s.heap H locs → W p l e rmX1_balance s m args below meth c H locs 0 0 Q (F0 m 0 ls []) := by
    intro H locs hP hD hS
    refine lv_aload_n hx hb dX1_balance_0 rfl (lv_at hl 0 rfl) ?_
    refine lv_iload_n hx hb dX1_balance_1 rfl (lv_at hl 1 rfl) ?_
    refine lv_iconst (v := 0) hx hb dX1_balance_2 (by decide) ?_
    refine lv_bipush (v := 100) hx hb dX1_balance_3 (by decide) ?_
    refine k_calls (rest := [.ref h]) (As := [.int x, .int 0, .int 100]) hC (c_X1_isIn l dC dI cI cZ (mW cI cZ h a rpt rph rgr rca rne rap rle rfu rba rru rti rtk rsv rgi rpa rth) x 0 100 ) (va_cwS 3 hts gX1_balance_X1_isIn rfl rfl rfl hd_X1_isIn ⟨Nat.le_of_ble_eq_true rfl, Nat.le_of_ble_eq_true rfl⟩) hK hP hD hS hA rfl hl.1 (Nat.le_of_ble_eq_true rfl) dX1_balance_5 rfl ⟨Nat.zero_le _, Nat.zero_le _⟩ (fun H locs hP hD hS => ?_)
    refine lv_if_eq (tgt := 15) hx hb dX1_balance_8 (by decide) (fun c8 => ?_) (fun c8 => ?_)
    · refine lv_iconst (v := 1) hx hb dX1_balance_15 (by decide) ?_
      refine va_put (D := (dC, dI)) (ci := 1) (v := .int 1) (ty := .int) (C := RX1) (T := TX1) (N := 16) hx hb hts hin tyX1 tyX1_ok nmX1 hown hK hP hD hS 0 rfl rfl 15 (by decide) hw0 (fun _ h9 => h9) rfl mfd15 rfl rfl (Nat.le_of_ble_eq_true rfl) dX1_balance_16 (fun H locs hP hD hS => ?_)
      have hP : va_P (dC, dI) vwCl (mW cI cZ h a rpt rph rgr rca rne rap rle rfu rba rru rti rtk rsv rgi rpa 1) H := hP
      have hD : va_D A (mW cI cZ h a rpt rph rgr rca rne rap rle rfu rba rru rti rtk rsv rgi rpa 1) := hD
      refine lv_aload_n hx hb dX1_balance_19 rfl (lv_at hl 0 rfl) ?_
      refine va_get (D := (dC, dI)) (ci := 1) (v := .int 1) (C := RX1) (T := TX1) (N := 16) hx hb hts hin hown hK hP 0 rfl rfl 15 (by decide) hw0 (fun _ h9 => h9) rfl dX1_balance_20 ?_
      refine lv_if_le (tgt := 28) hx hb dX1_balance_23 (by decide) (fun c => absurd c (by decide)) (fun _ => ?_)
      refine lv_iconst (v := 0) hx hb dX1_balance_26 (by decide) ?_
      have hP8 : va_P (dC, dI) vwCl (mW cI cZ h a rpt rph rgr rca rne rap rle rfu ((X1_balance rba x).2.1) rru rti rtk rsv rgi rpa ((X1_balance rba x).2.2)) H := by rw [X1_balance, if_pos c8]; exact hP
      have hD8 : va_D A (mW cI cZ h a rpt rph rgr rca rne rap rle rfu ((X1_balance rba x).2.1) rru rti rtk rsv rgi rpa ((X1_balance rba x).2.2)) := by rw [X1_balance, if_pos c8]; exact hD
      exact hret H locs 27 ls 0 hS hP8 hD8 (by rw [X1_balance, if_pos c8]) dX1_balance_27
    · refine lv_iconst (v := 0) hx hb dX1_balance_11 (by decide) ?_
      refine lv_goto (tgt := 16) hx hb dX1_balance_12 (by decide) ?_
      refine va_put (D := (dC, dI)) (ci := 1) (v := .int 0) (ty := .int) (C := RX1) (T := TX1) (N := 16) hx hb hts hin tyX1 tyX1_ok nmX1 hown hK hP hD hS 0 rfl rfl 15 (by decide) hw0 (fun _ h9 => h9) rfl mfd15 rfl rfl (Nat.le_of_ble_eq_true rfl) dX1_balance_16 (fun H locs hP hD hS => ?_)
      have hP : va_P (dC, dI) vwCl (mW cI cZ h a rpt rph rgr rca rne rap rle rfu rba rru rti rtk rsv rgi rpa 0) H := hP
      have hD : va_D A (mW cI cZ h a rpt rph rgr rca rne rap rle rfu rba rru rti rtk rsv rgi rpa 0) := hD
      refine lv_aload_n hx hb dX1_balance_19 rfl (lv_at hl 0 rfl) ?_
      refine va_get (D := (dC, dI)) (ci := 1) (v := .int 0) (C := RX1) (T := TX1) (N := 16) hx hb hts hin hown hK hP 0 rfl rfl 15 (by decide) hw0 (fun _ h9 => h9) rfl dX1_balance_20 ?_
      refine lv_if_le (tgt := 28) hx hb dX1_balance_23 (by decide) (fun _ => ?_) (fun c => absurd (by decide) c)
      refine lv_aload_n hx hb dX1_balance_28 rfl (lv_at hl 0 rfl) ?_
      refine va_get (D := (dC, dI)) (ci := 1) (v := .int rba) (C := RX1) (T := TX1) (N := 16) hx hb hts hin hown hK hP 0 rfl rfl 8 (by decide) hw1 (fun _ h9 => h9) rfl dX1_balance_29 ?_
      refine lv_istore_n (lv' := [(2, .int rba), (0, .ref h), (1, .int x)]) hx hb dX1_balance_32 rfl hl (by decide) rfl (fun ls hl => ?_)
      refine lv_aload_n hx hb dX1_balance_33 rfl (lv_at hl 1 rfl) ?_
      refine lv_iload_n hx hb dX1_balance_34 rfl (lv_at hl 2 rfl) ?_
      refine va_put (D := (dC, dI)) (ci := 1) (v := .int x) (ty := .int) (C := RX1) (T := TX1) (N := 16) hx hb hts hin tyX1 tyX1_ok nmX1 hown hK hP hD hS 0 rfl rfl 8 (by decide) hw1 (fun _ h9 => h9) rfl mfd8 rfl rfl (Nat.le_of_ble_eq_true rfl) dX1_balance_35 (fun H locs hP hD hS => ?_)
      have hP : va_P (dC, dI) vwCl (mW cI cZ h a rpt rph rgr rca rne rap rle rfu x rru rti rtk rsv rgi rpa 0) H := hP
      have hD : va_D A (mW cI cZ h a rpt rph rgr rca rne rap rle rfu x rru rti rtk rsv rgi rpa 0) := hD
      refine lv_iload_n hx hb dX1_balance_38 rfl (lv_at hl 0 rfl) ?_
      have hP8 : va_P (dC, dI) vwCl (mW cI cZ h a rpt rph rgr rca rne rap rle rfu ((X1_balance rba x).2.1) rru rti rtk rsv rgi rpa ((X1_balance rba x).2.2)) H := by rw [X1_balance, if_neg c8]; exact hP
      have hD8 : va_D A (mW cI cZ h a rpt rph rgr rca rne rap rle rfu ((X1_balance rba x).2.1) rru rti rtk rsv rgi rpa ((X1_balance rba x).2.2)) := by rw [X1_balance, if_neg c8]; exact hD
      exact hret H locs 39 ls rba hS hP8 hD8 (by rw [X1_balance, if_neg c8]) dX1_balance_39
  exact hW _ _ hP hD hS
def X1_rule (rru : Int32) (x : Int32) : Int32 × Int32 × Int32 := (if (X1_isIn x 0 1) = 0 then (0, rru, 1) else (rru, x, 0))
abbrev rmX1_rule : Room := { frames := 1, cells := 0, slots := 0, locals := 22 }
theorem hd_X1_rule : yX1_rule.cls = RX1 ∧ yX1_rule.cls ≠ "java/lang/invoke/MethodHandle" ∧ yX1_rule.cls ≠ "java/lang/invoke/VarHandle" ∧ (parseMethodDescriptor yX1_rule.desc).map (fun d => d.parameters.length) = some 1 := by decide +kernel
set_option maxHeartbeats 4000000 in
set_option maxRecDepth 100000 in
theorem c_X1_rule (l : Launch) (dC : Nat → ClassId) (dI : Nat → Nat → Nat) (cI cZ : ClassId) (h : Nat) (a : Nat → Nat) (rpt : Int32) (rph : AR) (rgr : AR) (rca : AR) (rne : AR) (rap : AR) (rle : AR) (rfu : AR) (rba : Int32) (rru : Int32) (rti : Int32) (rtk : Int32) (rsv : Int32) (rgi : AR) (rpa : AR) (rth : Int32) (x : Int32) : Ki l yX1_rule wsX1_rule rmX1_rule dC dI cI cZ [.ref h, .int x] (mW cI cZ h a rpt rph rgr rca rne rap rle rfu rba rru rti rtk rsv rgi rpa rth) (mW cI cZ h a rpt rph rgr rca rne rap rle rfu rba ((X1_rule rru x).2.1) rti rtk rsv rgi rpa ((X1_rule rru x).2.2)) (X1_rule rru x).1 := by
  refine k_enter_i (cc := cX1_rule) (maxL := 3) (ret := some .int) (by decide) rfl (Nat.le_of_ble_eq_true rfl) ?_
  intro p e s m below meth c A ls hC hr hlocks hK hP hD hS hA hl
  generalize List.toArray _ = args at hC ⊢
  obtain ⟨hx, hb, hml, hown, hts⟩ := id hC
  have hret : ∀ (H : Heap) (locs : List Loc) (pc : Nat) (ls : Array Slot) (r : Int32), va_S A s.heap H locs → va_P (dC, dI) vwCl (mW cI cZ h a rpt rph rgr rca rne rap rle rfu rba ((X1_rule rru x).2.1) rti rtk rsv rgi rpa ((X1_rule rru x).2.2)) H → va_D A (mW cI cZ h a rpt rph rgr rca rne rap rle rfu rba ((X1_rule rru x).2.1) rti rtk rsv rgi rpa ((X1_rule rru x).2.2)) → r = (X1_rule rru x).1 → decode cX1_rule pc = .ok (.ireturn, 1) → W p l e rmX1_rule s m args below meth c H locs 0 0 (MQ below (va_Qi (fun r (_ : Unit) => r = (X1_rule rru x).1) (kBeh dC dI A (mW cI cZ h a rpt rph rgr rca rne rap rle rfu rba ((X1_rule rru x).2.1) rti rtk rsv rgi rpa ((X1_rule rru x).2.2))) A) args s 0 0 A) (F0 m pc ls [.int r]) := fun H locs pc ls r hS hP hD hv d => k_iret hx hb hr hlocks hS hP hD hv d
  generalize MQ below _ _ _ _ _ _ = Q at hret ⊢
  have hin : ∀ w ∈ wsX10, w ∈ wsX1_rule := by decide +kernel
  have hw0 := hts (.fieldLink RX1 42 "ChargeParkModel" "thrown" "I") (by decide +kernel)
  have hw1 := hts (.fieldLink RX1 52 "ChargeParkModel" "rule" "I") (by decide +kernel)
  have hl : lv_has ls 3 [(0, .ref h), (1, .int x)] := hl
  have hP : va_P (dC, dI) vwCl (mW cI cZ h a rpt rph rgr rca rne rap rle rfu rba rru rti rtk rsv rgi rpa rth) s.heap := hP
  have hW : ∀ (H : Heap) (locs : List Loc), va_P (dC, dI) vwCl (mW cI cZ h a rpt rph rgr rca rne rap rle rfu rba rru rti rtk rsv rgi rpa rth) H → va_D A (mW cI cZ h a rpt rph rgr rca rne rap rle rfu rba rru rti rtk rsv rgi rpa rth) → va_S A s.heap H locs → W p l e rmX1_rule s m args below meth c H locs 0 0 Q (F0 m 0 ls []) := by
    intro H locs hP hD hS
    refine lv_aload_n hx hb dX1_rule_0 rfl (lv_at hl 0 rfl) ?_
    refine lv_iload_n hx hb dX1_rule_1 rfl (lv_at hl 1 rfl) ?_
    refine lv_iconst (v := 0) hx hb dX1_rule_2 (by decide) ?_
    refine lv_iconst (v := 1) hx hb dX1_rule_3 (by decide) ?_
    refine k_calls (rest := [.ref h]) (As := [.int x, .int 0, .int 1]) hC (c_X1_isIn l dC dI cI cZ (mW cI cZ h a rpt rph rgr rca rne rap rle rfu rba rru rti rtk rsv rgi rpa rth) x 0 1 ) (va_cwS 3 hts gX1_rule_X1_isIn rfl rfl rfl hd_X1_isIn ⟨Nat.le_of_ble_eq_true rfl, Nat.le_of_ble_eq_true rfl⟩) hK hP hD hS hA rfl hl.1 (Nat.le_of_ble_eq_true rfl) dX1_rule_4 rfl ⟨Nat.zero_le _, Nat.zero_le _⟩ (fun H locs hP hD hS => ?_)
    refine lv_if_eq (tgt := 14) hx hb dX1_rule_7 (by decide) (fun c7 => ?_) (fun c7 => ?_)
    · refine lv_iconst (v := 1) hx hb dX1_rule_14 (by decide) ?_
      refine va_put (D := (dC, dI)) (ci := 1) (v := .int 1) (ty := .int) (C := RX1) (T := TX1) (N := 16) hx hb hts hin tyX1 tyX1_ok nmX1 hown hK hP hD hS 0 rfl rfl 15 (by decide) hw0 (fun _ h9 => h9) rfl mfd15 rfl rfl (Nat.le_of_ble_eq_true rfl) dX1_rule_15 (fun H locs hP hD hS => ?_)
      have hP : va_P (dC, dI) vwCl (mW cI cZ h a rpt rph rgr rca rne rap rle rfu rba rru rti rtk rsv rgi rpa 1) H := hP
      have hD : va_D A (mW cI cZ h a rpt rph rgr rca rne rap rle rfu rba rru rti rtk rsv rgi rpa 1) := hD
      refine lv_aload_n hx hb dX1_rule_18 rfl (lv_at hl 0 rfl) ?_
      refine va_get (D := (dC, dI)) (ci := 1) (v := .int 1) (C := RX1) (T := TX1) (N := 16) hx hb hts hin hown hK hP 0 rfl rfl 15 (by decide) hw0 (fun _ h9 => h9) rfl dX1_rule_19 ?_
      refine lv_if_le (tgt := 27) hx hb dX1_rule_22 (by decide) (fun c => absurd c (by decide)) (fun _ => ?_)
      refine lv_iconst (v := 0) hx hb dX1_rule_25 (by decide) ?_
      have hP8 : va_P (dC, dI) vwCl (mW cI cZ h a rpt rph rgr rca rne rap rle rfu rba ((X1_rule rru x).2.1) rti rtk rsv rgi rpa ((X1_rule rru x).2.2)) H := by rw [X1_rule, if_pos c7]; exact hP
      have hD8 : va_D A (mW cI cZ h a rpt rph rgr rca rne rap rle rfu rba ((X1_rule rru x).2.1) rti rtk rsv rgi rpa ((X1_rule rru x).2.2)) := by rw [X1_rule, if_pos c7]; exact hD
      exact hret H locs 26 ls 0 hS hP8 hD8 (by rw [X1_rule, if_pos c7]) dX1_rule_26
    · refine lv_iconst (v := 0) hx hb dX1_rule_10 (by decide) ?_
      refine lv_goto (tgt := 15) hx hb dX1_rule_11 (by decide) ?_
      refine va_put (D := (dC, dI)) (ci := 1) (v := .int 0) (ty := .int) (C := RX1) (T := TX1) (N := 16) hx hb hts hin tyX1 tyX1_ok nmX1 hown hK hP hD hS 0 rfl rfl 15 (by decide) hw0 (fun _ h9 => h9) rfl mfd15 rfl rfl (Nat.le_of_ble_eq_true rfl) dX1_rule_15 (fun H locs hP hD hS => ?_)
      have hP : va_P (dC, dI) vwCl (mW cI cZ h a rpt rph rgr rca rne rap rle rfu rba rru rti rtk rsv rgi rpa 0) H := hP
      have hD : va_D A (mW cI cZ h a rpt rph rgr rca rne rap rle rfu rba rru rti rtk rsv rgi rpa 0) := hD
      refine lv_aload_n hx hb dX1_rule_18 rfl (lv_at hl 0 rfl) ?_
      refine va_get (D := (dC, dI)) (ci := 1) (v := .int 0) (C := RX1) (T := TX1) (N := 16) hx hb hts hin hown hK hP 0 rfl rfl 15 (by decide) hw0 (fun _ h9 => h9) rfl dX1_rule_19 ?_
      refine lv_if_le (tgt := 27) hx hb dX1_rule_22 (by decide) (fun _ => ?_) (fun c => absurd (by decide) c)
      refine lv_aload_n hx hb dX1_rule_27 rfl (lv_at hl 0 rfl) ?_
      refine va_get (D := (dC, dI)) (ci := 1) (v := .int rru) (C := RX1) (T := TX1) (N := 16) hx hb hts hin hown hK hP 0 rfl rfl 9 (by decide) hw1 (fun _ h9 => h9) rfl dX1_rule_28 ?_
      refine lv_istore_n (lv' := [(2, .int rru), (0, .ref h), (1, .int x)]) hx hb dX1_rule_31 rfl hl (by decide) rfl (fun ls hl => ?_)
      refine lv_aload_n hx hb dX1_rule_32 rfl (lv_at hl 1 rfl) ?_
      refine lv_iload_n hx hb dX1_rule_33 rfl (lv_at hl 2 rfl) ?_
      refine va_put (D := (dC, dI)) (ci := 1) (v := .int x) (ty := .int) (C := RX1) (T := TX1) (N := 16) hx hb hts hin tyX1 tyX1_ok nmX1 hown hK hP hD hS 0 rfl rfl 9 (by decide) hw1 (fun _ h9 => h9) rfl mfd9 rfl rfl (Nat.le_of_ble_eq_true rfl) dX1_rule_34 (fun H locs hP hD hS => ?_)
      have hP : va_P (dC, dI) vwCl (mW cI cZ h a rpt rph rgr rca rne rap rle rfu rba x rti rtk rsv rgi rpa 0) H := hP
      have hD : va_D A (mW cI cZ h a rpt rph rgr rca rne rap rle rfu rba x rti rtk rsv rgi rpa 0) := hD
      refine lv_iload_n hx hb dX1_rule_37 rfl (lv_at hl 0 rfl) ?_
      have hP8 : va_P (dC, dI) vwCl (mW cI cZ h a rpt rph rgr rca rne rap rle rfu rba ((X1_rule rru x).2.1) rti rtk rsv rgi rpa ((X1_rule rru x).2.2)) H := by rw [X1_rule, if_neg c7]; exact hP
      have hD8 : va_D A (mW cI cZ h a rpt rph rgr rca rne rap rle rfu rba ((X1_rule rru x).2.1) rti rtk rsv rgi rpa ((X1_rule rru x).2.2)) := by rw [X1_rule, if_neg c7]; exact hD
      exact hret H locs 38 ls rru hS hP8 hD8 (by rw [X1_rule, if_neg c7]) dX1_rule_38
  exact hW _ _ hP hD hS
def X1_plugIn (rpt : Int32) (rph : AR) (rgr : AR) (rca : AR) (rne : AR) (rap : AR) (rle : AR) (rti : Int32) (n : Nat) (i : Int32) (nd : Int32) (ap_ : Int32) (sp : Int32) : Int32 × AR × AR × AR × AR × Int32 := (if (X1_isPoint rpt i).1 = 0 then (0, rca, rne, rap, rle, ((X1_isPoint rpt i).2)) else (if (X1_isIn nd 1 5000) = 0 then (0, rca, rne, rap, rle, 2) else (if (X1_isIn ap_ 1 32) = 0 then (0, rca, rne, rap, rle, 2) else (if (X1_isIn sp 1 500) = 0 then (0, rca, rne, rap, rle, 2) else (if (rca i.toNatClampNeg) = 0 then ((X1_lax rph rgr (upd rne i.toNatClampNeg nd) (upd rap i.toNatClampNeg ap_) (upd rle i.toNatClampNeg (rti + sp)) rti i), (upd rca i.toNatClampNeg (vp_nar .boolean 1)), (upd rne i.toNatClampNeg nd), (upd rap i.toNatClampNeg ap_), (upd rle i.toNatClampNeg (rti + sp)), 0) else (0, rca, rne, rap, rle, 3))))))
abbrev rmX1_plugIn : Room := { frames := 2, cells := 0, slots := 0, locals := 43 }
theorem hd_X1_plugIn : yX1_plugIn.cls = RX1 ∧ yX1_plugIn.cls ≠ "java/lang/invoke/MethodHandle" ∧ yX1_plugIn.cls ≠ "java/lang/invoke/VarHandle" ∧ (parseMethodDescriptor yX1_plugIn.desc).map (fun d => d.parameters.length) = some 4 := by decide +kernel
set_option maxHeartbeats 4000000 in
set_option maxRecDepth 100000 in
theorem c_X1_plugIn (l : Launch) (dC : Nat → ClassId) (dI : Nat → Nat → Nat) (cI cZ : ClassId) (h : Nat) (a : Nat → Nat) (rpt : Int32) (rph : AR) (rgr : AR) (rca : AR) (rne : AR) (rap : AR) (rle : AR) (rfu : AR) (rba : Int32) (rru : Int32) (rti : Int32) (rtk : Int32) (rsv : Int32) (rgi : AR) (rpa : AR) (rth : Int32) (n : Nat) (i : Int32) (nd : Int32) (ap_ : Int32) (sp : Int32) (hpc : rpt = nI n) (hn : n ≤ 8) (hI : mI rgr rca rap n) : Ki l yX1_plugIn wsX1_plugIn rmX1_plugIn dC dI cI cZ [.ref h, .int i, .int nd, .int ap_, .int sp] (mW cI cZ h a rpt rph rgr rca rne rap rle rfu rba rru rti rtk rsv rgi rpa rth) (mW cI cZ h a rpt rph rgr ((X1_plugIn rpt rph rgr rca rne rap rle rti n i nd ap_ sp).2.1) ((X1_plugIn rpt rph rgr rca rne rap rle rti n i nd ap_ sp).2.2.1) ((X1_plugIn rpt rph rgr rca rne rap rle rti n i nd ap_ sp).2.2.2.1) ((X1_plugIn rpt rph rgr rca rne rap rle rti n i nd ap_ sp).2.2.2.2.1) rfu rba rru rti rtk rsv rgi rpa ((X1_plugIn rpt rph rgr rca rne rap rle rti n i nd ap_ sp).2.2.2.2.2)) (X1_plugIn rpt rph rgr rca rne rap rle rti n i nd ap_ sp).1 := by
  refine k_enter_i (cc := cX1_plugIn) (maxL := 5) (ret := some .int) (by decide) rfl (Nat.le_of_ble_eq_true rfl) ?_
  intro p e s m below meth c A ls hC hr hlocks hK hP hD hS hA hl
  generalize List.toArray _ = args at hC ⊢
  obtain ⟨hx, hb, hml, hown, hts⟩ := id hC
  have hret : ∀ (H : Heap) (locs : List Loc) (pc : Nat) (ls : Array Slot) (r : Int32), va_S A s.heap H locs → va_P (dC, dI) vwCl (mW cI cZ h a rpt rph rgr ((X1_plugIn rpt rph rgr rca rne rap rle rti n i nd ap_ sp).2.1) ((X1_plugIn rpt rph rgr rca rne rap rle rti n i nd ap_ sp).2.2.1) ((X1_plugIn rpt rph rgr rca rne rap rle rti n i nd ap_ sp).2.2.2.1) ((X1_plugIn rpt rph rgr rca rne rap rle rti n i nd ap_ sp).2.2.2.2.1) rfu rba rru rti rtk rsv rgi rpa ((X1_plugIn rpt rph rgr rca rne rap rle rti n i nd ap_ sp).2.2.2.2.2)) H → va_D A (mW cI cZ h a rpt rph rgr ((X1_plugIn rpt rph rgr rca rne rap rle rti n i nd ap_ sp).2.1) ((X1_plugIn rpt rph rgr rca rne rap rle rti n i nd ap_ sp).2.2.1) ((X1_plugIn rpt rph rgr rca rne rap rle rti n i nd ap_ sp).2.2.2.1) ((X1_plugIn rpt rph rgr rca rne rap rle rti n i nd ap_ sp).2.2.2.2.1) rfu rba rru rti rtk rsv rgi rpa ((X1_plugIn rpt rph rgr rca rne rap rle rti n i nd ap_ sp).2.2.2.2.2)) → r = (X1_plugIn rpt rph rgr rca rne rap rle rti n i nd ap_ sp).1 → decode cX1_plugIn pc = .ok (.ireturn, 1) → W p l e rmX1_plugIn s m args below meth c H locs 0 0 (MQ below (va_Qi (fun r (_ : Unit) => r = (X1_plugIn rpt rph rgr rca rne rap rle rti n i nd ap_ sp).1) (kBeh dC dI A (mW cI cZ h a rpt rph rgr ((X1_plugIn rpt rph rgr rca rne rap rle rti n i nd ap_ sp).2.1) ((X1_plugIn rpt rph rgr rca rne rap rle rti n i nd ap_ sp).2.2.1) ((X1_plugIn rpt rph rgr rca rne rap rle rti n i nd ap_ sp).2.2.2.1) ((X1_plugIn rpt rph rgr rca rne rap rle rti n i nd ap_ sp).2.2.2.2.1) rfu rba rru rti rtk rsv rgi rpa ((X1_plugIn rpt rph rgr rca rne rap rle rti n i nd ap_ sp).2.2.2.2.2))) A) args s 0 0 A) (F0 m pc ls [.int r]) := fun H locs pc ls r hS hP hD hv d => k_iret hx hb hr hlocks hS hP hD hv d
  generalize MQ below _ _ _ _ _ _ = Q at hret ⊢
  have hin : ∀ w ∈ wsX10, w ∈ wsX1_plugIn := by decide +kernel
  have hw0 := hts (.fieldLink RX1 42 "ChargeParkModel" "thrown" "I") (by decide +kernel)
  have hw1 := hts (.fieldLink RX1 16 "ChargeParkModel" "car" "[Z") (by decide +kernel)
  have hw2 := hts (.fieldLink RX1 20 "ChargeParkModel" "need" "[I") (by decide +kernel)
  have hw3 := hts (.fieldLink RX1 23 "ChargeParkModel" "appetite" "[I") (by decide +kernel)
  have hw4 := hts (.fieldLink RX1 26 "ChargeParkModel" "leaves" "[I") (by decide +kernel)
  have hw5 := hts (.fieldLink RX1 55 "ChargeParkModel" "time" "I") (by decide +kernel)
  have hl : lv_has ls 5 [(0, .ref h), (1, .int i), (2, .int nd), (3, .int ap_), (4, .int sp)] := hl
  have hP : va_P (dC, dI) vwCl (mW cI cZ h a rpt rph rgr rca rne rap rle rfu rba rru rti rtk rsv rgi rpa rth) s.heap := hP
  have hW : ∀ (H : Heap) (locs : List Loc), va_P (dC, dI) vwCl (mW cI cZ h a rpt rph rgr rca rne rap rle rfu rba rru rti rtk rsv rgi rpa rth) H → va_D A (mW cI cZ h a rpt rph rgr rca rne rap rle rfu rba rru rti rtk rsv rgi rpa rth) → va_S A s.heap H locs → W p l e rmX1_plugIn s m args below meth c H locs 0 0 Q (F0 m 0 ls []) := by
    intro H locs hP hD hS
    refine lv_aload_n hx hb dX1_plugIn_0 rfl (lv_at hl 0 rfl) ?_
    refine lv_iload_n hx hb dX1_plugIn_1 rfl (lv_at hl 1 rfl) ?_
    refine k_calli (rest := []) (q0 := 0) hC (c_X1_isPoint l dC dI cI cZ h a rpt rph rgr rca rne rap rle rfu rba rru rti rtk rsv rgi rpa rth  i ) (cwV 1 hts gX1_plugIn_X1_isPoint rfl rfl rfl hd_X1_isPoint ⟨Nat.le_of_ble_eq_true rfl, Nat.le_of_ble_eq_true rfl⟩) hK hP hD hS hA rfl rfl rfl hl.1 (Nat.le_of_ble_eq_true rfl) dX1_plugIn_2 rfl ⟨Nat.zero_le _, Nat.zero_le _⟩ (fun H locs hP hD hS => ?_)
    obtain ⟨z1, hz1⟩ : ∃ z : Int32, z = ((X1_isPoint rpt i).2) := ⟨_, rfl⟩
    rw [← hz1] at hP hD
    have hP : va_P (dC, dI) vwCl (mW cI cZ h a rpt rph rgr rca rne rap rle rfu rba rru rti rtk rsv rgi rpa z1) H := hP
    have hD : va_D A (mW cI cZ h a rpt rph rgr rca rne rap rle rfu rba rru rti rtk rsv rgi rpa z1) := hD
    refine lv_if_ne (tgt := 10) hx hb dX1_plugIn_5 (by decide) (fun c5 => ?_) (fun c5 => ?_)
    · refine lv_aload_n hx hb dX1_plugIn_10 rfl (lv_at hl 0 rfl) ?_
      refine lv_iload_n hx hb dX1_plugIn_11 rfl (lv_at hl 2 rfl) ?_
      refine lv_iconst (v := 1) hx hb dX1_plugIn_12 (by decide) ?_
      refine lv_sipush (v := 5000) hx hb dX1_plugIn_13 (by decide) ?_
      refine k_calls (rest := [.ref h]) (As := [.int nd, .int 1, .int 5000]) hC (c_X1_isIn l dC dI cI cZ (mW cI cZ h a rpt rph rgr rca rne rap rle rfu rba rru rti rtk rsv rgi rpa z1) nd 1 5000 ) (va_cwS 3 hts gX1_plugIn_X1_isIn rfl rfl rfl hd_X1_isIn ⟨Nat.le_of_ble_eq_true rfl, Nat.le_of_ble_eq_true rfl⟩) hK hP hD hS hA rfl hl.1 (Nat.le_of_ble_eq_true rfl) dX1_plugIn_16 rfl ⟨Nat.zero_le _, Nat.zero_le _⟩ (fun H locs hP hD hS => ?_)
      refine lv_if_eq (tgt := 44) hx hb dX1_plugIn_19 (by decide) (fun c19 => ?_) (fun c19 => ?_)
      · refine lv_iconst (v := 2) hx hb dX1_plugIn_44 (by decide) ?_
        refine lv_goto (tgt := 62) hx hb dX1_plugIn_45 (by decide) ?_
        refine va_put (D := (dC, dI)) (ci := 1) (v := .int 2) (ty := .int) (C := RX1) (T := TX1) (N := 16) hx hb hts hin tyX1 tyX1_ok nmX1 hown hK hP hD hS 0 rfl rfl 15 (by decide) hw0 (fun _ h9 => h9) rfl mfd15 rfl rfl (Nat.le_of_ble_eq_true rfl) dX1_plugIn_62 (fun H locs hP hD hS => ?_)
        have hP : va_P (dC, dI) vwCl (mW cI cZ h a rpt rph rgr rca rne rap rle rfu rba rru rti rtk rsv rgi rpa 2) H := hP
        have hD : va_D A (mW cI cZ h a rpt rph rgr rca rne rap rle rfu rba rru rti rtk rsv rgi rpa 2) := hD
        refine lv_aload_n hx hb dX1_plugIn_65 rfl (lv_at hl 0 rfl) ?_
        refine va_get (D := (dC, dI)) (ci := 1) (v := .int 2) (C := RX1) (T := TX1) (N := 16) hx hb hts hin hown hK hP 0 rfl rfl 15 (by decide) hw0 (fun _ h9 => h9) rfl dX1_plugIn_66 ?_
        refine lv_if_le (tgt := 74) hx hb dX1_plugIn_69 (by decide) (fun c => absurd c (by decide)) (fun _ => ?_)
        refine lv_iconst (v := 0) hx hb dX1_plugIn_72 (by decide) ?_
        have hP9 := hP; have hD9 := hD
        subst hz1
        have hP8 : va_P (dC, dI) vwCl (mW cI cZ h a rpt rph rgr ((X1_plugIn rpt rph rgr rca rne rap rle rti n i nd ap_ sp).2.1) ((X1_plugIn rpt rph rgr rca rne rap rle rti n i nd ap_ sp).2.2.1) ((X1_plugIn rpt rph rgr rca rne rap rle rti n i nd ap_ sp).2.2.2.1) ((X1_plugIn rpt rph rgr rca rne rap rle rti n i nd ap_ sp).2.2.2.2.1) rfu rba rru rti rtk rsv rgi rpa ((X1_plugIn rpt rph rgr rca rne rap rle rti n i nd ap_ sp).2.2.2.2.2)) H := by rw [X1_plugIn, if_neg c5, if_pos c19]; exact hP9
        have hD8 : va_D A (mW cI cZ h a rpt rph rgr ((X1_plugIn rpt rph rgr rca rne rap rle rti n i nd ap_ sp).2.1) ((X1_plugIn rpt rph rgr rca rne rap rle rti n i nd ap_ sp).2.2.1) ((X1_plugIn rpt rph rgr rca rne rap rle rti n i nd ap_ sp).2.2.2.1) ((X1_plugIn rpt rph rgr rca rne rap rle rti n i nd ap_ sp).2.2.2.2.1) rfu rba rru rti rtk rsv rgi rpa ((X1_plugIn rpt rph rgr rca rne rap rle rti n i nd ap_ sp).2.2.2.2.2)) := by rw [X1_plugIn, if_neg c5, if_pos c19]; exact hD9
        exact hret H locs 73 ls 0 hS hP8 hD8 (by rw [X1_plugIn, if_neg c5, if_pos c19]) dX1_plugIn_73
      · refine lv_iload_n hx hb dX1_plugIn_22 rfl (lv_at hl 3 rfl) ?_
        refine lv_iconst (v := 1) hx hb dX1_plugIn_23 (by decide) ?_
        refine lv_bipush (v := 32) hx hb dX1_plugIn_24 (by decide) ?_
        refine k_calls (rest := [.ref h]) (As := [.int ap_, .int 1, .int 32]) hC (c_X1_isIn l dC dI cI cZ (mW cI cZ h a rpt rph rgr rca rne rap rle rfu rba rru rti rtk rsv rgi rpa z1) ap_ 1 32 ) (va_cwS 3 hts gX1_plugIn_X1_isIn rfl rfl rfl hd_X1_isIn ⟨Nat.le_of_ble_eq_true rfl, Nat.le_of_ble_eq_true rfl⟩) hK hP hD hS hA rfl hl.1 (Nat.le_of_ble_eq_true rfl) dX1_plugIn_26 rfl ⟨Nat.zero_le _, Nat.zero_le _⟩ (fun H locs hP hD hS => ?_)
        refine lv_if_eq (tgt := 44) hx hb dX1_plugIn_29 (by decide) (fun c29 => ?_) (fun c29 => ?_)
        · refine lv_iconst (v := 2) hx hb dX1_plugIn_44 (by decide) ?_
          refine lv_goto (tgt := 62) hx hb dX1_plugIn_45 (by decide) ?_
          refine va_put (D := (dC, dI)) (ci := 1) (v := .int 2) (ty := .int) (C := RX1) (T := TX1) (N := 16) hx hb hts hin tyX1 tyX1_ok nmX1 hown hK hP hD hS 0 rfl rfl 15 (by decide) hw0 (fun _ h9 => h9) rfl mfd15 rfl rfl (Nat.le_of_ble_eq_true rfl) dX1_plugIn_62 (fun H locs hP hD hS => ?_)
          have hP : va_P (dC, dI) vwCl (mW cI cZ h a rpt rph rgr rca rne rap rle rfu rba rru rti rtk rsv rgi rpa 2) H := hP
          have hD : va_D A (mW cI cZ h a rpt rph rgr rca rne rap rle rfu rba rru rti rtk rsv rgi rpa 2) := hD
          refine lv_aload_n hx hb dX1_plugIn_65 rfl (lv_at hl 0 rfl) ?_
          refine va_get (D := (dC, dI)) (ci := 1) (v := .int 2) (C := RX1) (T := TX1) (N := 16) hx hb hts hin hown hK hP 0 rfl rfl 15 (by decide) hw0 (fun _ h9 => h9) rfl dX1_plugIn_66 ?_
          refine lv_if_le (tgt := 74) hx hb dX1_plugIn_69 (by decide) (fun c => absurd c (by decide)) (fun _ => ?_)
          refine lv_iconst (v := 0) hx hb dX1_plugIn_72 (by decide) ?_
          have hP9 := hP; have hD9 := hD
          subst hz1
          have hP8 : va_P (dC, dI) vwCl (mW cI cZ h a rpt rph rgr ((X1_plugIn rpt rph rgr rca rne rap rle rti n i nd ap_ sp).2.1) ((X1_plugIn rpt rph rgr rca rne rap rle rti n i nd ap_ sp).2.2.1) ((X1_plugIn rpt rph rgr rca rne rap rle rti n i nd ap_ sp).2.2.2.1) ((X1_plugIn rpt rph rgr rca rne rap rle rti n i nd ap_ sp).2.2.2.2.1) rfu rba rru rti rtk rsv rgi rpa ((X1_plugIn rpt rph rgr rca rne rap rle rti n i nd ap_ sp).2.2.2.2.2)) H := by rw [X1_plugIn, if_neg c5, if_neg c19, if_pos c29]; exact hP9
          have hD8 : va_D A (mW cI cZ h a rpt rph rgr ((X1_plugIn rpt rph rgr rca rne rap rle rti n i nd ap_ sp).2.1) ((X1_plugIn rpt rph rgr rca rne rap rle rti n i nd ap_ sp).2.2.1) ((X1_plugIn rpt rph rgr rca rne rap rle rti n i nd ap_ sp).2.2.2.1) ((X1_plugIn rpt rph rgr rca rne rap rle rti n i nd ap_ sp).2.2.2.2.1) rfu rba rru rti rtk rsv rgi rpa ((X1_plugIn rpt rph rgr rca rne rap rle rti n i nd ap_ sp).2.2.2.2.2)) := by rw [X1_plugIn, if_neg c5, if_neg c19, if_pos c29]; exact hD9
          exact hret H locs 73 ls 0 hS hP8 hD8 (by rw [X1_plugIn, if_neg c5, if_neg c19, if_pos c29]) dX1_plugIn_73
        · refine lv_iload hx hb dX1_plugIn_32 (lv_at hl 4 rfl) ?_
          refine lv_iconst (v := 1) hx hb dX1_plugIn_34 (by decide) ?_
          refine lv_sipush (v := 500) hx hb dX1_plugIn_35 (by decide) ?_
          refine k_calls (rest := [.ref h]) (As := [.int sp, .int 1, .int 500]) hC (c_X1_isIn l dC dI cI cZ (mW cI cZ h a rpt rph rgr rca rne rap rle rfu rba rru rti rtk rsv rgi rpa z1) sp 1 500 ) (va_cwS 3 hts gX1_plugIn_X1_isIn rfl rfl rfl hd_X1_isIn ⟨Nat.le_of_ble_eq_true rfl, Nat.le_of_ble_eq_true rfl⟩) hK hP hD hS hA rfl hl.1 (Nat.le_of_ble_eq_true rfl) dX1_plugIn_38 rfl ⟨Nat.zero_le _, Nat.zero_le _⟩ (fun H locs hP hD hS => ?_)
          refine lv_if_ne (tgt := 48) hx hb dX1_plugIn_41 (by decide) (fun c41 => ?_) (fun c41 => ?_)
          · refine lv_aload_n hx hb dX1_plugIn_48 rfl (lv_at hl 0 rfl) ?_
            refine va_get (D := (dC, dI)) (ci := 1) (v := .ref (a 3)) (C := RX1) (T := TX1) (N := 16) hx hb hts hin hown hK hP 0 rfl rfl 3 (by decide) hw1 (fun _ h9 => h9) rfl dX1_plugIn_49 ?_
            refine lv_iload_n hx hb dX1_plugIn_52 rfl (lv_at hl 1 rfl) ?_
            refine va_zald (f := rca) hx hb hK hP 3 1 rfl rfl (isPoint_in hpc hn c5) dX1_plugIn_53 ?_
            refine lv_if_eq (tgt := 61) hx hb dX1_plugIn_54 (by decide) (fun c54 => ?_) (fun c54 => ?_)
            · refine lv_iconst (v := 0) hx hb dX1_plugIn_61 (by decide) ?_
              refine va_put (D := (dC, dI)) (ci := 1) (v := .int 0) (ty := .int) (C := RX1) (T := TX1) (N := 16) hx hb hts hin tyX1 tyX1_ok nmX1 hown hK hP hD hS 0 rfl rfl 15 (by decide) hw0 (fun _ h9 => h9) rfl mfd15 rfl rfl (Nat.le_of_ble_eq_true rfl) dX1_plugIn_62 (fun H locs hP hD hS => ?_)
              have hP : va_P (dC, dI) vwCl (mW cI cZ h a rpt rph rgr rca rne rap rle rfu rba rru rti rtk rsv rgi rpa 0) H := hP
              have hD : va_D A (mW cI cZ h a rpt rph rgr rca rne rap rle rfu rba rru rti rtk rsv rgi rpa 0) := hD
              refine lv_aload_n hx hb dX1_plugIn_65 rfl (lv_at hl 0 rfl) ?_
              refine va_get (D := (dC, dI)) (ci := 1) (v := .int 0) (C := RX1) (T := TX1) (N := 16) hx hb hts hin hown hK hP 0 rfl rfl 15 (by decide) hw0 (fun _ h9 => h9) rfl dX1_plugIn_66 ?_
              refine lv_if_le (tgt := 74) hx hb dX1_plugIn_69 (by decide) (fun _ => ?_) (fun c => absurd (by decide) c)
              refine lv_aload_n hx hb dX1_plugIn_74 rfl (lv_at hl 0 rfl) ?_
              refine va_get (D := (dC, dI)) (ci := 1) (v := .ref (a 3)) (C := RX1) (T := TX1) (N := 16) hx hb hts hin hown hK hP 0 rfl rfl 3 (by decide) hw1 (fun _ h9 => h9) rfl dX1_plugIn_75 ?_
              refine lv_iload_n hx hb dX1_plugIn_78 rfl (lv_at hl 1 rfl) ?_
              refine lv_iconst (v := 1) hx hb dX1_plugIn_79 (by decide) ?_
              refine va_zast (f := rca) hx hb hK hP hD hS 3 1 rfl rfl (isPoint_in hpc hn c5) dX1_plugIn_80 (fun H locs hP hD hS => ?_)
              obtain ⟨z2, hz2⟩ : ∃ z : AR, z = (upd rca i.toNatClampNeg (vp_nar .boolean 1)) := ⟨_, rfl⟩
              rw [← hz2] at hP hD
              have hP : va_P (dC, dI) vwCl (mW cI cZ h a rpt rph rgr z2 rne rap rle rfu rba rru rti rtk rsv rgi rpa 0) H := hP
              have hD : va_D A (mW cI cZ h a rpt rph rgr z2 rne rap rle rfu rba rru rti rtk rsv rgi rpa 0) := hD
              refine lv_aload_n hx hb dX1_plugIn_81 rfl (lv_at hl 0 rfl) ?_
              refine va_get (D := (dC, dI)) (ci := 1) (v := .ref (a 4)) (C := RX1) (T := TX1) (N := 16) hx hb hts hin hown hK hP 0 rfl rfl 4 (by decide) hw2 (fun _ h9 => h9) rfl dX1_plugIn_82 ?_
              refine lv_iload_n hx hb dX1_plugIn_85 rfl (lv_at hl 1 rfl) ?_
              refine lv_iload_n hx hb dX1_plugIn_86 rfl (lv_at hl 2 rfl) ?_
              refine va_iast (f := rne) hx hb hK hP hD hS 4 0 rfl rfl (isPoint_in hpc hn c5) dX1_plugIn_87 (fun H locs hP hD hS => ?_)
              obtain ⟨z3, hz3⟩ : ∃ z : AR, z = (upd rne i.toNatClampNeg nd) := ⟨_, rfl⟩
              rw [← hz3] at hP hD
              have hP : va_P (dC, dI) vwCl (mW cI cZ h a rpt rph rgr z2 z3 rap rle rfu rba rru rti rtk rsv rgi rpa 0) H := hP
              have hD : va_D A (mW cI cZ h a rpt rph rgr z2 z3 rap rle rfu rba rru rti rtk rsv rgi rpa 0) := hD
              refine lv_aload_n hx hb dX1_plugIn_88 rfl (lv_at hl 0 rfl) ?_
              refine va_get (D := (dC, dI)) (ci := 1) (v := .ref (a 5)) (C := RX1) (T := TX1) (N := 16) hx hb hts hin hown hK hP 0 rfl rfl 5 (by decide) hw3 (fun _ h9 => h9) rfl dX1_plugIn_89 ?_
              refine lv_iload_n hx hb dX1_plugIn_92 rfl (lv_at hl 1 rfl) ?_
              refine lv_iload_n hx hb dX1_plugIn_93 rfl (lv_at hl 3 rfl) ?_
              refine va_iast (f := rap) hx hb hK hP hD hS 5 0 rfl rfl (isPoint_in hpc hn c5) dX1_plugIn_94 (fun H locs hP hD hS => ?_)
              obtain ⟨z4, hz4⟩ : ∃ z : AR, z = (upd rap i.toNatClampNeg ap_) := ⟨_, rfl⟩
              rw [← hz4] at hP hD
              have hP : va_P (dC, dI) vwCl (mW cI cZ h a rpt rph rgr z2 z3 z4 rle rfu rba rru rti rtk rsv rgi rpa 0) H := hP
              have hD : va_D A (mW cI cZ h a rpt rph rgr z2 z3 z4 rle rfu rba rru rti rtk rsv rgi rpa 0) := hD
              refine lv_aload_n hx hb dX1_plugIn_95 rfl (lv_at hl 0 rfl) ?_
              refine va_get (D := (dC, dI)) (ci := 1) (v := .ref (a 6)) (C := RX1) (T := TX1) (N := 16) hx hb hts hin hown hK hP 0 rfl rfl 6 (by decide) hw4 (fun _ h9 => h9) rfl dX1_plugIn_96 ?_
              refine lv_iload_n hx hb dX1_plugIn_99 rfl (lv_at hl 1 rfl) ?_
              refine lv_aload_n hx hb dX1_plugIn_100 rfl (lv_at hl 0 rfl) ?_
              refine va_get (D := (dC, dI)) (ci := 1) (v := .int rti) (C := RX1) (T := TX1) (N := 16) hx hb hts hin hown hK hP 0 rfl rfl 10 (by decide) hw5 (fun _ h9 => h9) rfl dX1_plugIn_101 ?_
              refine lv_iload hx hb dX1_plugIn_104 (lv_at hl 4 rfl) ?_
              refine lv_iadd hx hb dX1_plugIn_106 ?_
              refine va_iast (f := rle) hx hb hK hP hD hS 6 0 rfl rfl (isPoint_in hpc hn c5) dX1_plugIn_107 (fun H locs hP hD hS => ?_)
              obtain ⟨z5, hz5⟩ : ∃ z : AR, z = (upd rle i.toNatClampNeg (rti + sp)) := ⟨_, rfl⟩
              rw [← hz5] at hP hD
              have hP : va_P (dC, dI) vwCl (mW cI cZ h a rpt rph rgr z2 z3 z4 z5 rfu rba rru rti rtk rsv rgi rpa 0) H := hP
              have hD : va_D A (mW cI cZ h a rpt rph rgr z2 z3 z4 z5 rfu rba rru rti rtk rsv rgi rpa 0) := hD
              refine lv_aload_n hx hb dX1_plugIn_108 rfl (lv_at hl 0 rfl) ?_
              refine lv_iload_n hx hb dX1_plugIn_109 rfl (lv_at hl 1 rfl) ?_
              refine k_calli (rest := []) (q0 := 0) hC (c_X1_lax l dC dI cI cZ h a rpt rph rgr z2 z3 z4 z5 rfu rba rru rti rtk rsv rgi rpa 0  i (isPoint_in hpc hn c5) (by subst hz1 hz2 hz3 hz4 hz5; exact plug_nz hpc hn hI c5 c29)) (cwV 1 hts gX1_plugIn_X1_lax rfl rfl rfl hd_X1_lax ⟨Nat.le_of_ble_eq_true rfl, Nat.le_of_ble_eq_true rfl⟩) hK hP hD hS hA rfl rfl rfl hl.1 (Nat.le_of_ble_eq_true rfl) dX1_plugIn_110 rfl ⟨Nat.zero_le _, Nat.zero_le _⟩ (fun H locs hP hD hS => ?_)
              have hP9 := hP; have hD9 := hD
              subst hz1 hz2 hz3 hz4 hz5
              have hP8 : va_P (dC, dI) vwCl (mW cI cZ h a rpt rph rgr ((X1_plugIn rpt rph rgr rca rne rap rle rti n i nd ap_ sp).2.1) ((X1_plugIn rpt rph rgr rca rne rap rle rti n i nd ap_ sp).2.2.1) ((X1_plugIn rpt rph rgr rca rne rap rle rti n i nd ap_ sp).2.2.2.1) ((X1_plugIn rpt rph rgr rca rne rap rle rti n i nd ap_ sp).2.2.2.2.1) rfu rba rru rti rtk rsv rgi rpa ((X1_plugIn rpt rph rgr rca rne rap rle rti n i nd ap_ sp).2.2.2.2.2)) H := by rw [X1_plugIn, if_neg c5, if_neg c19, if_neg c29, if_neg c41, if_pos c54]; exact hP9
              have hD8 : va_D A (mW cI cZ h a rpt rph rgr ((X1_plugIn rpt rph rgr rca rne rap rle rti n i nd ap_ sp).2.1) ((X1_plugIn rpt rph rgr rca rne rap rle rti n i nd ap_ sp).2.2.1) ((X1_plugIn rpt rph rgr rca rne rap rle rti n i nd ap_ sp).2.2.2.1) ((X1_plugIn rpt rph rgr rca rne rap rle rti n i nd ap_ sp).2.2.2.2.1) rfu rba rru rti rtk rsv rgi rpa ((X1_plugIn rpt rph rgr rca rne rap rle rti n i nd ap_ sp).2.2.2.2.2)) := by rw [X1_plugIn, if_neg c5, if_neg c19, if_neg c29, if_neg c41, if_pos c54]; exact hD9
              exact hret H locs 113 ls (X1_lax rph rgr (upd rne i.toNatClampNeg nd) (upd rap i.toNatClampNeg ap_) (upd rle i.toNatClampNeg (rti + sp)) rti i) hS hP8 hD8 (by rw [X1_plugIn, if_neg c5, if_neg c19, if_neg c29, if_neg c41, if_pos c54]) dX1_plugIn_113
            · refine lv_iconst (v := 3) hx hb dX1_plugIn_57 (by decide) ?_
              refine lv_goto (tgt := 62) hx hb dX1_plugIn_58 (by decide) ?_
              refine va_put (D := (dC, dI)) (ci := 1) (v := .int 3) (ty := .int) (C := RX1) (T := TX1) (N := 16) hx hb hts hin tyX1 tyX1_ok nmX1 hown hK hP hD hS 0 rfl rfl 15 (by decide) hw0 (fun _ h9 => h9) rfl mfd15 rfl rfl (Nat.le_of_ble_eq_true rfl) dX1_plugIn_62 (fun H locs hP hD hS => ?_)
              have hP : va_P (dC, dI) vwCl (mW cI cZ h a rpt rph rgr rca rne rap rle rfu rba rru rti rtk rsv rgi rpa 3) H := hP
              have hD : va_D A (mW cI cZ h a rpt rph rgr rca rne rap rle rfu rba rru rti rtk rsv rgi rpa 3) := hD
              refine lv_aload_n hx hb dX1_plugIn_65 rfl (lv_at hl 0 rfl) ?_
              refine va_get (D := (dC, dI)) (ci := 1) (v := .int 3) (C := RX1) (T := TX1) (N := 16) hx hb hts hin hown hK hP 0 rfl rfl 15 (by decide) hw0 (fun _ h9 => h9) rfl dX1_plugIn_66 ?_
              refine lv_if_le (tgt := 74) hx hb dX1_plugIn_69 (by decide) (fun c => absurd c (by decide)) (fun _ => ?_)
              refine lv_iconst (v := 0) hx hb dX1_plugIn_72 (by decide) ?_
              have hP9 := hP; have hD9 := hD
              subst hz1
              have hP8 : va_P (dC, dI) vwCl (mW cI cZ h a rpt rph rgr ((X1_plugIn rpt rph rgr rca rne rap rle rti n i nd ap_ sp).2.1) ((X1_plugIn rpt rph rgr rca rne rap rle rti n i nd ap_ sp).2.2.1) ((X1_plugIn rpt rph rgr rca rne rap rle rti n i nd ap_ sp).2.2.2.1) ((X1_plugIn rpt rph rgr rca rne rap rle rti n i nd ap_ sp).2.2.2.2.1) rfu rba rru rti rtk rsv rgi rpa ((X1_plugIn rpt rph rgr rca rne rap rle rti n i nd ap_ sp).2.2.2.2.2)) H := by rw [X1_plugIn, if_neg c5, if_neg c19, if_neg c29, if_neg c41, if_neg c54]; exact hP9
              have hD8 : va_D A (mW cI cZ h a rpt rph rgr ((X1_plugIn rpt rph rgr rca rne rap rle rti n i nd ap_ sp).2.1) ((X1_plugIn rpt rph rgr rca rne rap rle rti n i nd ap_ sp).2.2.1) ((X1_plugIn rpt rph rgr rca rne rap rle rti n i nd ap_ sp).2.2.2.1) ((X1_plugIn rpt rph rgr rca rne rap rle rti n i nd ap_ sp).2.2.2.2.1) rfu rba rru rti rtk rsv rgi rpa ((X1_plugIn rpt rph rgr rca rne rap rle rti n i nd ap_ sp).2.2.2.2.2)) := by rw [X1_plugIn, if_neg c5, if_neg c19, if_neg c29, if_neg c41, if_neg c54]; exact hD9
              exact hret H locs 73 ls 0 hS hP8 hD8 (by rw [X1_plugIn, if_neg c5, if_neg c19, if_neg c29, if_neg c41, if_neg c54]) dX1_plugIn_73
          · refine lv_iconst (v := 2) hx hb dX1_plugIn_44 (by decide) ?_
            refine lv_goto (tgt := 62) hx hb dX1_plugIn_45 (by decide) ?_
            refine va_put (D := (dC, dI)) (ci := 1) (v := .int 2) (ty := .int) (C := RX1) (T := TX1) (N := 16) hx hb hts hin tyX1 tyX1_ok nmX1 hown hK hP hD hS 0 rfl rfl 15 (by decide) hw0 (fun _ h9 => h9) rfl mfd15 rfl rfl (Nat.le_of_ble_eq_true rfl) dX1_plugIn_62 (fun H locs hP hD hS => ?_)
            have hP : va_P (dC, dI) vwCl (mW cI cZ h a rpt rph rgr rca rne rap rle rfu rba rru rti rtk rsv rgi rpa 2) H := hP
            have hD : va_D A (mW cI cZ h a rpt rph rgr rca rne rap rle rfu rba rru rti rtk rsv rgi rpa 2) := hD
            refine lv_aload_n hx hb dX1_plugIn_65 rfl (lv_at hl 0 rfl) ?_
            refine va_get (D := (dC, dI)) (ci := 1) (v := .int 2) (C := RX1) (T := TX1) (N := 16) hx hb hts hin hown hK hP 0 rfl rfl 15 (by decide) hw0 (fun _ h9 => h9) rfl dX1_plugIn_66 ?_
            refine lv_if_le (tgt := 74) hx hb dX1_plugIn_69 (by decide) (fun c => absurd c (by decide)) (fun _ => ?_)
            refine lv_iconst (v := 0) hx hb dX1_plugIn_72 (by decide) ?_
            have hP9 := hP; have hD9 := hD
            subst hz1
            have hP8 : va_P (dC, dI) vwCl (mW cI cZ h a rpt rph rgr ((X1_plugIn rpt rph rgr rca rne rap rle rti n i nd ap_ sp).2.1) ((X1_plugIn rpt rph rgr rca rne rap rle rti n i nd ap_ sp).2.2.1) ((X1_plugIn rpt rph rgr rca rne rap rle rti n i nd ap_ sp).2.2.2.1) ((X1_plugIn rpt rph rgr rca rne rap rle rti n i nd ap_ sp).2.2.2.2.1) rfu rba rru rti rtk rsv rgi rpa ((X1_plugIn rpt rph rgr rca rne rap rle rti n i nd ap_ sp).2.2.2.2.2)) H := by rw [X1_plugIn, if_neg c5, if_neg c19, if_neg c29, if_pos c41]; exact hP9
            have hD8 : va_D A (mW cI cZ h a rpt rph rgr ((X1_plugIn rpt rph rgr rca rne rap rle rti n i nd ap_ sp).2.1) ((X1_plugIn rpt rph rgr rca rne rap rle rti n i nd ap_ sp).2.2.1) ((X1_plugIn rpt rph rgr rca rne rap rle rti n i nd ap_ sp).2.2.2.1) ((X1_plugIn rpt rph rgr rca rne rap rle rti n i nd ap_ sp).2.2.2.2.1) rfu rba rru rti rtk rsv rgi rpa ((X1_plugIn rpt rph rgr rca rne rap rle rti n i nd ap_ sp).2.2.2.2.2)) := by rw [X1_plugIn, if_neg c5, if_neg c19, if_neg c29, if_pos c41]; exact hD9
            exact hret H locs 73 ls 0 hS hP8 hD8 (by rw [X1_plugIn, if_neg c5, if_neg c19, if_neg c29, if_pos c41]) dX1_plugIn_73
    · refine lv_iconst (v := 0) hx hb dX1_plugIn_8 (by decide) ?_
      have hP9 := hP; have hD9 := hD
      subst hz1
      have hP8 : va_P (dC, dI) vwCl (mW cI cZ h a rpt rph rgr ((X1_plugIn rpt rph rgr rca rne rap rle rti n i nd ap_ sp).2.1) ((X1_plugIn rpt rph rgr rca rne rap rle rti n i nd ap_ sp).2.2.1) ((X1_plugIn rpt rph rgr rca rne rap rle rti n i nd ap_ sp).2.2.2.1) ((X1_plugIn rpt rph rgr rca rne rap rle rti n i nd ap_ sp).2.2.2.2.1) rfu rba rru rti rtk rsv rgi rpa ((X1_plugIn rpt rph rgr rca rne rap rle rti n i nd ap_ sp).2.2.2.2.2)) H := by rw [X1_plugIn, if_pos c5]; exact hP9
      have hD8 : va_D A (mW cI cZ h a rpt rph rgr ((X1_plugIn rpt rph rgr rca rne rap rle rti n i nd ap_ sp).2.1) ((X1_plugIn rpt rph rgr rca rne rap rle rti n i nd ap_ sp).2.2.1) ((X1_plugIn rpt rph rgr rca rne rap rle rti n i nd ap_ sp).2.2.2.1) ((X1_plugIn rpt rph rgr rca rne rap rle rti n i nd ap_ sp).2.2.2.2.1) rfu rba rru rti rtk rsv rgi rpa ((X1_plugIn rpt rph rgr rca rne rap rle rti n i nd ap_ sp).2.2.2.2.2)) := by rw [X1_plugIn, if_pos c5]; exact hD9
      exact hret H locs 9 ls 0 hS hP8 hD8 (by rw [X1_plugIn, if_pos c5]) dX1_plugIn_9
  exact hW _ _ hP hD hS
def X1_takeOut (rpt : Int32) (rca : AR) (rne : AR) (rsv : Int32) (n : Nat) (i : Int32) : Int32 × AR × Int32 × Int32 := (if (X1_isPoint rpt i).1 = 0 then (0, rca, rsv, ((X1_isPoint rpt i).2)) else (if (rca i.toNatClampNeg) = 0 then (0, rca, rsv, 2) else (if (rne i.toNatClampNeg) = 0 then ((rne i.toNatClampNeg), (upd rca i.toNatClampNeg (vp_nar .boolean 0)), (rsv + 1), 0) else ((rne i.toNatClampNeg), (upd rca i.toNatClampNeg (vp_nar .boolean 0)), (rsv + 0), 0))))
abbrev rmX1_takeOut : Room := { frames := 2, cells := 0, slots := 0, locals := 43 }
theorem hd_X1_takeOut : yX1_takeOut.cls = RX1 ∧ yX1_takeOut.cls ≠ "java/lang/invoke/MethodHandle" ∧ yX1_takeOut.cls ≠ "java/lang/invoke/VarHandle" ∧ (parseMethodDescriptor yX1_takeOut.desc).map (fun d => d.parameters.length) = some 1 := by decide +kernel
set_option maxHeartbeats 4000000 in
set_option maxRecDepth 100000 in
theorem c_X1_takeOut (l : Launch) (dC : Nat → ClassId) (dI : Nat → Nat → Nat) (cI cZ : ClassId) (h : Nat) (a : Nat → Nat) (rpt : Int32) (rph : AR) (rgr : AR) (rca : AR) (rne : AR) (rap : AR) (rle : AR) (rfu : AR) (rba : Int32) (rru : Int32) (rti : Int32) (rtk : Int32) (rsv : Int32) (rgi : AR) (rpa : AR) (rth : Int32) (n : Nat) (i : Int32) (hpc : rpt = nI n) (hn : n ≤ 8) : Ki l yX1_takeOut wsX1_takeOut rmX1_takeOut dC dI cI cZ [.ref h, .int i] (mW cI cZ h a rpt rph rgr rca rne rap rle rfu rba rru rti rtk rsv rgi rpa rth) (mW cI cZ h a rpt rph rgr ((X1_takeOut rpt rca rne rsv n i).2.1) rne rap rle rfu rba rru rti rtk ((X1_takeOut rpt rca rne rsv n i).2.2.1) rgi rpa ((X1_takeOut rpt rca rne rsv n i).2.2.2)) (X1_takeOut rpt rca rne rsv n i).1 := by
  refine k_enter_i (cc := cX1_takeOut) (maxL := 2) (ret := some .int) (by decide) rfl (Nat.le_of_ble_eq_true rfl) ?_
  intro p e s m below meth c A ls hC hr hlocks hK hP hD hS hA hl
  generalize List.toArray _ = args at hC ⊢
  obtain ⟨hx, hb, hml, hown, hts⟩ := id hC
  have hret : ∀ (H : Heap) (locs : List Loc) (pc : Nat) (ls : Array Slot) (r : Int32), va_S A s.heap H locs → va_P (dC, dI) vwCl (mW cI cZ h a rpt rph rgr ((X1_takeOut rpt rca rne rsv n i).2.1) rne rap rle rfu rba rru rti rtk ((X1_takeOut rpt rca rne rsv n i).2.2.1) rgi rpa ((X1_takeOut rpt rca rne rsv n i).2.2.2)) H → va_D A (mW cI cZ h a rpt rph rgr ((X1_takeOut rpt rca rne rsv n i).2.1) rne rap rle rfu rba rru rti rtk ((X1_takeOut rpt rca rne rsv n i).2.2.1) rgi rpa ((X1_takeOut rpt rca rne rsv n i).2.2.2)) → r = (X1_takeOut rpt rca rne rsv n i).1 → decode cX1_takeOut pc = .ok (.ireturn, 1) → W p l e rmX1_takeOut s m args below meth c H locs 0 0 (MQ below (va_Qi (fun r (_ : Unit) => r = (X1_takeOut rpt rca rne rsv n i).1) (kBeh dC dI A (mW cI cZ h a rpt rph rgr ((X1_takeOut rpt rca rne rsv n i).2.1) rne rap rle rfu rba rru rti rtk ((X1_takeOut rpt rca rne rsv n i).2.2.1) rgi rpa ((X1_takeOut rpt rca rne rsv n i).2.2.2))) A) args s 0 0 A) (F0 m pc ls [.int r]) := fun H locs pc ls r hS hP hD hv d => k_iret hx hb hr hlocks hS hP hD hv d
  generalize MQ below _ _ _ _ _ _ = Q at hret ⊢
  have hin : ∀ w ∈ wsX10, w ∈ wsX1_takeOut := by decide +kernel
  have hw0 := hts (.fieldLink RX1 16 "ChargeParkModel" "car" "[Z") (by decide +kernel)
  have hw1 := hts (.fieldLink RX1 42 "ChargeParkModel" "thrown" "I") (by decide +kernel)
  have hw2 := hts (.fieldLink RX1 79 "ChargeParkModel" "served" "I") (by decide +kernel)
  have hw3 := hts (.fieldLink RX1 20 "ChargeParkModel" "need" "[I") (by decide +kernel)
  have hl : lv_has ls 2 [(0, .ref h), (1, .int i)] := hl
  have hP : va_P (dC, dI) vwCl (mW cI cZ h a rpt rph rgr rca rne rap rle rfu rba rru rti rtk rsv rgi rpa rth) s.heap := hP
  have hW : ∀ (H : Heap) (locs : List Loc), va_P (dC, dI) vwCl (mW cI cZ h a rpt rph rgr rca rne rap rle rfu rba rru rti rtk rsv rgi rpa rth) H → va_D A (mW cI cZ h a rpt rph rgr rca rne rap rle rfu rba rru rti rtk rsv rgi rpa rth) → va_S A s.heap H locs → W p l e rmX1_takeOut s m args below meth c H locs 0 0 Q (F0 m 0 ls []) := by
    intro H locs hP hD hS
    refine lv_aload_n hx hb dX1_takeOut_0 rfl (lv_at hl 0 rfl) ?_
    refine lv_iload_n hx hb dX1_takeOut_1 rfl (lv_at hl 1 rfl) ?_
    refine k_calli (rest := []) (q0 := 0) hC (c_X1_isPoint l dC dI cI cZ h a rpt rph rgr rca rne rap rle rfu rba rru rti rtk rsv rgi rpa rth  i ) (cwV 1 hts gX1_takeOut_X1_isPoint rfl rfl rfl hd_X1_isPoint ⟨Nat.le_of_ble_eq_true rfl, Nat.le_of_ble_eq_true rfl⟩) hK hP hD hS hA rfl rfl rfl hl.1 (Nat.le_of_ble_eq_true rfl) dX1_takeOut_2 rfl ⟨Nat.zero_le _, Nat.zero_le _⟩ (fun H locs hP hD hS => ?_)
    obtain ⟨z1, hz1⟩ : ∃ z : Int32, z = ((X1_isPoint rpt i).2) := ⟨_, rfl⟩
    rw [← hz1] at hP hD
    have hP : va_P (dC, dI) vwCl (mW cI cZ h a rpt rph rgr rca rne rap rle rfu rba rru rti rtk rsv rgi rpa z1) H := hP
    have hD : va_D A (mW cI cZ h a rpt rph rgr rca rne rap rle rfu rba rru rti rtk rsv rgi rpa z1) := hD
    refine lv_if_ne (tgt := 10) hx hb dX1_takeOut_5 (by decide) (fun c5 => ?_) (fun c5 => ?_)
    · refine lv_aload_n hx hb dX1_takeOut_10 rfl (lv_at hl 0 rfl) ?_
      refine lv_aload_n hx hb dX1_takeOut_11 rfl (lv_at hl 0 rfl) ?_
      refine va_get (D := (dC, dI)) (ci := 1) (v := .ref (a 3)) (C := RX1) (T := TX1) (N := 16) hx hb hts hin hown hK hP 0 rfl rfl 3 (by decide) hw0 (fun _ h9 => h9) rfl dX1_takeOut_12 ?_
      refine lv_iload_n hx hb dX1_takeOut_15 rfl (lv_at hl 1 rfl) ?_
      refine va_zald (f := rca) hx hb hK hP 3 1 rfl rfl (isPoint_in hpc hn c5) dX1_takeOut_16 ?_
      refine lv_if_eq (tgt := 24) hx hb dX1_takeOut_17 (by decide) (fun c17 => ?_) (fun c17 => ?_)
      · refine lv_iconst (v := 2) hx hb dX1_takeOut_24 (by decide) ?_
        refine va_put (D := (dC, dI)) (ci := 1) (v := .int 2) (ty := .int) (C := RX1) (T := TX1) (N := 16) hx hb hts hin tyX1 tyX1_ok nmX1 hown hK hP hD hS 0 rfl rfl 15 (by decide) hw1 (fun _ h9 => h9) rfl mfd15 rfl rfl (Nat.le_of_ble_eq_true rfl) dX1_takeOut_25 (fun H locs hP hD hS => ?_)
        have hP : va_P (dC, dI) vwCl (mW cI cZ h a rpt rph rgr rca rne rap rle rfu rba rru rti rtk rsv rgi rpa 2) H := hP
        have hD : va_D A (mW cI cZ h a rpt rph rgr rca rne rap rle rfu rba rru rti rtk rsv rgi rpa 2) := hD
        refine lv_aload_n hx hb dX1_takeOut_28 rfl (lv_at hl 0 rfl) ?_
        refine va_get (D := (dC, dI)) (ci := 1) (v := .int 2) (C := RX1) (T := TX1) (N := 16) hx hb hts hin hown hK hP 0 rfl rfl 15 (by decide) hw1 (fun _ h9 => h9) rfl dX1_takeOut_29 ?_
        refine lv_if_le (tgt := 37) hx hb dX1_takeOut_32 (by decide) (fun c => absurd c (by decide)) (fun _ => ?_)
        refine lv_iconst (v := 0) hx hb dX1_takeOut_35 (by decide) ?_
        have hP9 := hP; have hD9 := hD
        subst hz1
        have hP8 : va_P (dC, dI) vwCl (mW cI cZ h a rpt rph rgr ((X1_takeOut rpt rca rne rsv n i).2.1) rne rap rle rfu rba rru rti rtk ((X1_takeOut rpt rca rne rsv n i).2.2.1) rgi rpa ((X1_takeOut rpt rca rne rsv n i).2.2.2)) H := by rw [X1_takeOut, if_neg c5, if_pos c17]; exact hP9
        have hD8 : va_D A (mW cI cZ h a rpt rph rgr ((X1_takeOut rpt rca rne rsv n i).2.1) rne rap rle rfu rba rru rti rtk ((X1_takeOut rpt rca rne rsv n i).2.2.1) rgi rpa ((X1_takeOut rpt rca rne rsv n i).2.2.2)) := by rw [X1_takeOut, if_neg c5, if_pos c17]; exact hD9
        exact hret H locs 36 ls 0 hS hP8 hD8 (by rw [X1_takeOut, if_neg c5, if_pos c17]) dX1_takeOut_36
      · refine lv_iconst (v := 0) hx hb dX1_takeOut_20 (by decide) ?_
        refine lv_goto (tgt := 25) hx hb dX1_takeOut_21 (by decide) ?_
        refine va_put (D := (dC, dI)) (ci := 1) (v := .int 0) (ty := .int) (C := RX1) (T := TX1) (N := 16) hx hb hts hin tyX1 tyX1_ok nmX1 hown hK hP hD hS 0 rfl rfl 15 (by decide) hw1 (fun _ h9 => h9) rfl mfd15 rfl rfl (Nat.le_of_ble_eq_true rfl) dX1_takeOut_25 (fun H locs hP hD hS => ?_)
        have hP : va_P (dC, dI) vwCl (mW cI cZ h a rpt rph rgr rca rne rap rle rfu rba rru rti rtk rsv rgi rpa 0) H := hP
        have hD : va_D A (mW cI cZ h a rpt rph rgr rca rne rap rle rfu rba rru rti rtk rsv rgi rpa 0) := hD
        refine lv_aload_n hx hb dX1_takeOut_28 rfl (lv_at hl 0 rfl) ?_
        refine va_get (D := (dC, dI)) (ci := 1) (v := .int 0) (C := RX1) (T := TX1) (N := 16) hx hb hts hin hown hK hP 0 rfl rfl 15 (by decide) hw1 (fun _ h9 => h9) rfl dX1_takeOut_29 ?_
        refine lv_if_le (tgt := 37) hx hb dX1_takeOut_32 (by decide) (fun _ => ?_) (fun c => absurd (by decide) c)
        refine lv_aload_n hx hb dX1_takeOut_37 rfl (lv_at hl 0 rfl) ?_
        refine va_get (D := (dC, dI)) (ci := 1) (v := .ref (a 3)) (C := RX1) (T := TX1) (N := 16) hx hb hts hin hown hK hP 0 rfl rfl 3 (by decide) hw0 (fun _ h9 => h9) rfl dX1_takeOut_38 ?_
        refine lv_iload_n hx hb dX1_takeOut_41 rfl (lv_at hl 1 rfl) ?_
        refine lv_iconst (v := 0) hx hb dX1_takeOut_42 (by decide) ?_
        refine va_zast (f := rca) hx hb hK hP hD hS 3 1 rfl rfl (isPoint_in hpc hn c5) dX1_takeOut_43 (fun H locs hP hD hS => ?_)
        obtain ⟨z2, hz2⟩ : ∃ z : AR, z = (upd rca i.toNatClampNeg (vp_nar .boolean 0)) := ⟨_, rfl⟩
        rw [← hz2] at hP hD
        have hP : va_P (dC, dI) vwCl (mW cI cZ h a rpt rph rgr z2 rne rap rle rfu rba rru rti rtk rsv rgi rpa 0) H := hP
        have hD : va_D A (mW cI cZ h a rpt rph rgr z2 rne rap rle rfu rba rru rti rtk rsv rgi rpa 0) := hD
        refine lv_aload_n hx hb dX1_takeOut_44 rfl (lv_at hl 0 rfl) ?_
        refine lv_dup hx hb dX1_takeOut_45 rfl ?_
        refine va_get (D := (dC, dI)) (ci := 1) (v := .int rsv) (C := RX1) (T := TX1) (N := 16) hx hb hts hin hown hK hP 0 rfl rfl 12 (by decide) hw2 (fun _ h9 => h9) rfl dX1_takeOut_46 ?_
        refine lv_aload_n hx hb dX1_takeOut_49 rfl (lv_at hl 0 rfl) ?_
        refine va_get (D := (dC, dI)) (ci := 1) (v := .ref (a 4)) (C := RX1) (T := TX1) (N := 16) hx hb hts hin hown hK hP 0 rfl rfl 4 (by decide) hw3 (fun _ h9 => h9) rfl dX1_takeOut_50 ?_
        refine lv_iload_n hx hb dX1_takeOut_53 rfl (lv_at hl 1 rfl) ?_
        refine va_iald (f := rne) hx hb hK hP 4 0 rfl rfl (isPoint_in hpc hn c5) dX1_takeOut_54 ?_
        refine lv_if_ne (tgt := 62) hx hb dX1_takeOut_55 (by decide) (fun c55 => ?_) (fun c55 => ?_)
        · refine lv_iconst (v := 0) hx hb dX1_takeOut_62 (by decide) ?_
          refine lv_iadd hx hb dX1_takeOut_63 ?_
          refine va_put (D := (dC, dI)) (ci := 1) (v := .int (rsv + 0)) (ty := .int) (C := RX1) (T := TX1) (N := 16) hx hb hts hin tyX1 tyX1_ok nmX1 hown hK hP hD hS 0 rfl rfl 12 (by decide) hw2 (fun _ h9 => h9) rfl mfd12 rfl rfl (Nat.le_of_ble_eq_true rfl) dX1_takeOut_64 (fun H locs hP hD hS => ?_)
          obtain ⟨z3, hz3⟩ : ∃ z : Int32, z = (rsv + 0) := ⟨_, rfl⟩
          rw [← hz3] at hP hD
          have hP : va_P (dC, dI) vwCl (mW cI cZ h a rpt rph rgr z2 rne rap rle rfu rba rru rti rtk z3 rgi rpa 0) H := hP
          have hD : va_D A (mW cI cZ h a rpt rph rgr z2 rne rap rle rfu rba rru rti rtk z3 rgi rpa 0) := hD
          refine lv_aload_n hx hb dX1_takeOut_67 rfl (lv_at hl 0 rfl) ?_
          refine va_get (D := (dC, dI)) (ci := 1) (v := .ref (a 4)) (C := RX1) (T := TX1) (N := 16) hx hb hts hin hown hK hP 0 rfl rfl 4 (by decide) hw3 (fun _ h9 => h9) rfl dX1_takeOut_68 ?_
          refine lv_iload_n hx hb dX1_takeOut_71 rfl (lv_at hl 1 rfl) ?_
          refine va_iald (f := rne) hx hb hK hP 4 0 rfl rfl (isPoint_in hpc hn c5) dX1_takeOut_72 ?_
          have hP9 := hP; have hD9 := hD
          subst hz1 hz2 hz3
          have hP8 : va_P (dC, dI) vwCl (mW cI cZ h a rpt rph rgr ((X1_takeOut rpt rca rne rsv n i).2.1) rne rap rle rfu rba rru rti rtk ((X1_takeOut rpt rca rne rsv n i).2.2.1) rgi rpa ((X1_takeOut rpt rca rne rsv n i).2.2.2)) H := by rw [X1_takeOut, if_neg c5, if_neg c17, if_neg c55]; exact hP9
          have hD8 : va_D A (mW cI cZ h a rpt rph rgr ((X1_takeOut rpt rca rne rsv n i).2.1) rne rap rle rfu rba rru rti rtk ((X1_takeOut rpt rca rne rsv n i).2.2.1) rgi rpa ((X1_takeOut rpt rca rne rsv n i).2.2.2)) := by rw [X1_takeOut, if_neg c5, if_neg c17, if_neg c55]; exact hD9
          exact hret H locs 73 ls (rne i.toNatClampNeg) hS hP8 hD8 (by rw [X1_takeOut, if_neg c5, if_neg c17, if_neg c55]) dX1_takeOut_73
        · refine lv_iconst (v := 1) hx hb dX1_takeOut_58 (by decide) ?_
          refine lv_goto (tgt := 63) hx hb dX1_takeOut_59 (by decide) ?_
          refine lv_iadd hx hb dX1_takeOut_63 ?_
          refine va_put (D := (dC, dI)) (ci := 1) (v := .int (rsv + 1)) (ty := .int) (C := RX1) (T := TX1) (N := 16) hx hb hts hin tyX1 tyX1_ok nmX1 hown hK hP hD hS 0 rfl rfl 12 (by decide) hw2 (fun _ h9 => h9) rfl mfd12 rfl rfl (Nat.le_of_ble_eq_true rfl) dX1_takeOut_64 (fun H locs hP hD hS => ?_)
          obtain ⟨z4, hz4⟩ : ∃ z : Int32, z = (rsv + 1) := ⟨_, rfl⟩
          rw [← hz4] at hP hD
          have hP : va_P (dC, dI) vwCl (mW cI cZ h a rpt rph rgr z2 rne rap rle rfu rba rru rti rtk z4 rgi rpa 0) H := hP
          have hD : va_D A (mW cI cZ h a rpt rph rgr z2 rne rap rle rfu rba rru rti rtk z4 rgi rpa 0) := hD
          refine lv_aload_n hx hb dX1_takeOut_67 rfl (lv_at hl 0 rfl) ?_
          refine va_get (D := (dC, dI)) (ci := 1) (v := .ref (a 4)) (C := RX1) (T := TX1) (N := 16) hx hb hts hin hown hK hP 0 rfl rfl 4 (by decide) hw3 (fun _ h9 => h9) rfl dX1_takeOut_68 ?_
          refine lv_iload_n hx hb dX1_takeOut_71 rfl (lv_at hl 1 rfl) ?_
          refine va_iald (f := rne) hx hb hK hP 4 0 rfl rfl (isPoint_in hpc hn c5) dX1_takeOut_72 ?_
          have hP9 := hP; have hD9 := hD
          subst hz1 hz2 hz4
          have hP8 : va_P (dC, dI) vwCl (mW cI cZ h a rpt rph rgr ((X1_takeOut rpt rca rne rsv n i).2.1) rne rap rle rfu rba rru rti rtk ((X1_takeOut rpt rca rne rsv n i).2.2.1) rgi rpa ((X1_takeOut rpt rca rne rsv n i).2.2.2)) H := by rw [X1_takeOut, if_neg c5, if_neg c17, if_pos c55]; exact hP9
          have hD8 : va_D A (mW cI cZ h a rpt rph rgr ((X1_takeOut rpt rca rne rsv n i).2.1) rne rap rle rfu rba rru rti rtk ((X1_takeOut rpt rca rne rsv n i).2.2.1) rgi rpa ((X1_takeOut rpt rca rne rsv n i).2.2.2)) := by rw [X1_takeOut, if_neg c5, if_neg c17, if_pos c55]; exact hD9
          exact hret H locs 73 ls (rne i.toNatClampNeg) hS hP8 hD8 (by rw [X1_takeOut, if_neg c5, if_neg c17, if_pos c55]) dX1_takeOut_73
    · refine lv_iconst (v := 0) hx hb dX1_takeOut_8 (by decide) ?_
      have hP9 := hP; have hD9 := hD
      subst hz1
      have hP8 : va_P (dC, dI) vwCl (mW cI cZ h a rpt rph rgr ((X1_takeOut rpt rca rne rsv n i).2.1) rne rap rle rfu rba rru rti rtk ((X1_takeOut rpt rca rne rsv n i).2.2.1) rgi rpa ((X1_takeOut rpt rca rne rsv n i).2.2.2)) H := by rw [X1_takeOut, if_pos c5]; exact hP9
      have hD8 : va_D A (mW cI cZ h a rpt rph rgr ((X1_takeOut rpt rca rne rsv n i).2.1) rne rap rle rfu rba rru rti rtk ((X1_takeOut rpt rca rne rsv n i).2.2.1) rgi rpa ((X1_takeOut rpt rca rne rsv n i).2.2.2)) := by rw [X1_takeOut, if_pos c5]; exact hD9
      exact hret H locs 9 ls 0 hS hP8 hD8 (by rw [X1_takeOut, if_pos c5]) dX1_takeOut_9
  exact hW _ _ hP hD hS
def X1_appetite (rpt : Int32) (rca : AR) (rap : AR) (n : Nat) (i : Int32) (x : Int32) : Int32 × AR × Int32 := (if (X1_isPoint rpt i).1 = 0 then (0, rap, ((X1_isPoint rpt i).2)) else (if (X1_isIn x 1 32) = 0 then (0, rap, 2) else (if (rca i.toNatClampNeg) = 0 then (0, rap, 3) else ((rap i.toNatClampNeg), (upd rap i.toNatClampNeg x), 0))))
abbrev rmX1_appetite : Room := { frames := 2, cells := 0, slots := 0, locals := 43 }
theorem hd_X1_appetite : yX1_appetite.cls = RX1 ∧ yX1_appetite.cls ≠ "java/lang/invoke/MethodHandle" ∧ yX1_appetite.cls ≠ "java/lang/invoke/VarHandle" ∧ (parseMethodDescriptor yX1_appetite.desc).map (fun d => d.parameters.length) = some 2 := by decide +kernel
set_option maxHeartbeats 4000000 in
set_option maxRecDepth 100000 in
theorem c_X1_appetite (l : Launch) (dC : Nat → ClassId) (dI : Nat → Nat → Nat) (cI cZ : ClassId) (h : Nat) (a : Nat → Nat) (rpt : Int32) (rph : AR) (rgr : AR) (rca : AR) (rne : AR) (rap : AR) (rle : AR) (rfu : AR) (rba : Int32) (rru : Int32) (rti : Int32) (rtk : Int32) (rsv : Int32) (rgi : AR) (rpa : AR) (rth : Int32) (n : Nat) (i : Int32) (x : Int32) (hpc : rpt = nI n) (hn : n ≤ 8) : Ki l yX1_appetite wsX1_appetite rmX1_appetite dC dI cI cZ [.ref h, .int i, .int x] (mW cI cZ h a rpt rph rgr rca rne rap rle rfu rba rru rti rtk rsv rgi rpa rth) (mW cI cZ h a rpt rph rgr rca rne ((X1_appetite rpt rca rap n i x).2.1) rle rfu rba rru rti rtk rsv rgi rpa ((X1_appetite rpt rca rap n i x).2.2)) (X1_appetite rpt rca rap n i x).1 := by
  refine k_enter_i (cc := cX1_appetite) (maxL := 4) (ret := some .int) (by decide) rfl (Nat.le_of_ble_eq_true rfl) ?_
  intro p e s m below meth c A ls hC hr hlocks hK hP hD hS hA hl
  generalize List.toArray _ = args at hC ⊢
  obtain ⟨hx, hb, hml, hown, hts⟩ := id hC
  have hret : ∀ (H : Heap) (locs : List Loc) (pc : Nat) (ls : Array Slot) (r : Int32), va_S A s.heap H locs → va_P (dC, dI) vwCl (mW cI cZ h a rpt rph rgr rca rne ((X1_appetite rpt rca rap n i x).2.1) rle rfu rba rru rti rtk rsv rgi rpa ((X1_appetite rpt rca rap n i x).2.2)) H → va_D A (mW cI cZ h a rpt rph rgr rca rne ((X1_appetite rpt rca rap n i x).2.1) rle rfu rba rru rti rtk rsv rgi rpa ((X1_appetite rpt rca rap n i x).2.2)) → r = (X1_appetite rpt rca rap n i x).1 → decode cX1_appetite pc = .ok (.ireturn, 1) → W p l e rmX1_appetite s m args below meth c H locs 0 0 (MQ below (va_Qi (fun r (_ : Unit) => r = (X1_appetite rpt rca rap n i x).1) (kBeh dC dI A (mW cI cZ h a rpt rph rgr rca rne ((X1_appetite rpt rca rap n i x).2.1) rle rfu rba rru rti rtk rsv rgi rpa ((X1_appetite rpt rca rap n i x).2.2))) A) args s 0 0 A) (F0 m pc ls [.int r]) := fun H locs pc ls r hS hP hD hv d => k_iret hx hb hr hlocks hS hP hD hv d
  generalize MQ below _ _ _ _ _ _ = Q at hret ⊢
  have hin : ∀ w ∈ wsX10, w ∈ wsX1_appetite := by decide +kernel
  have hw0 := hts (.fieldLink RX1 16 "ChargeParkModel" "car" "[Z") (by decide +kernel)
  have hw1 := hts (.fieldLink RX1 42 "ChargeParkModel" "thrown" "I") (by decide +kernel)
  have hw2 := hts (.fieldLink RX1 23 "ChargeParkModel" "appetite" "[I") (by decide +kernel)
  have hl : lv_has ls 4 [(0, .ref h), (1, .int i), (2, .int x)] := hl
  have hP : va_P (dC, dI) vwCl (mW cI cZ h a rpt rph rgr rca rne rap rle rfu rba rru rti rtk rsv rgi rpa rth) s.heap := hP
  have hW : ∀ (H : Heap) (locs : List Loc), va_P (dC, dI) vwCl (mW cI cZ h a rpt rph rgr rca rne rap rle rfu rba rru rti rtk rsv rgi rpa rth) H → va_D A (mW cI cZ h a rpt rph rgr rca rne rap rle rfu rba rru rti rtk rsv rgi rpa rth) → va_S A s.heap H locs → W p l e rmX1_appetite s m args below meth c H locs 0 0 Q (F0 m 0 ls []) := by
    intro H locs hP hD hS
    refine lv_aload_n hx hb dX1_appetite_0 rfl (lv_at hl 0 rfl) ?_
    refine lv_iload_n hx hb dX1_appetite_1 rfl (lv_at hl 1 rfl) ?_
    refine k_calli (rest := []) (q0 := 0) hC (c_X1_isPoint l dC dI cI cZ h a rpt rph rgr rca rne rap rle rfu rba rru rti rtk rsv rgi rpa rth  i ) (cwV 1 hts gX1_appetite_X1_isPoint rfl rfl rfl hd_X1_isPoint ⟨Nat.le_of_ble_eq_true rfl, Nat.le_of_ble_eq_true rfl⟩) hK hP hD hS hA rfl rfl rfl hl.1 (Nat.le_of_ble_eq_true rfl) dX1_appetite_2 rfl ⟨Nat.zero_le _, Nat.zero_le _⟩ (fun H locs hP hD hS => ?_)
    obtain ⟨z1, hz1⟩ : ∃ z : Int32, z = ((X1_isPoint rpt i).2) := ⟨_, rfl⟩
    rw [← hz1] at hP hD
    have hP : va_P (dC, dI) vwCl (mW cI cZ h a rpt rph rgr rca rne rap rle rfu rba rru rti rtk rsv rgi rpa z1) H := hP
    have hD : va_D A (mW cI cZ h a rpt rph rgr rca rne rap rle rfu rba rru rti rtk rsv rgi rpa z1) := hD
    refine lv_if_ne (tgt := 10) hx hb dX1_appetite_5 (by decide) (fun c5 => ?_) (fun c5 => ?_)
    · refine lv_aload_n hx hb dX1_appetite_10 rfl (lv_at hl 0 rfl) ?_
      refine lv_iload_n hx hb dX1_appetite_11 rfl (lv_at hl 2 rfl) ?_
      refine lv_iconst (v := 1) hx hb dX1_appetite_12 (by decide) ?_
      refine lv_bipush (v := 32) hx hb dX1_appetite_13 (by decide) ?_
      refine k_calls (rest := [.ref h]) (As := [.int x, .int 1, .int 32]) hC (c_X1_isIn l dC dI cI cZ (mW cI cZ h a rpt rph rgr rca rne rap rle rfu rba rru rti rtk rsv rgi rpa z1) x 1 32 ) (va_cwS 3 hts gX1_appetite_X1_isIn rfl rfl rfl hd_X1_isIn ⟨Nat.le_of_ble_eq_true rfl, Nat.le_of_ble_eq_true rfl⟩) hK hP hD hS hA rfl hl.1 (Nat.le_of_ble_eq_true rfl) dX1_appetite_15 rfl ⟨Nat.zero_le _, Nat.zero_le _⟩ (fun H locs hP hD hS => ?_)
      refine lv_if_ne (tgt := 25) hx hb dX1_appetite_18 (by decide) (fun c18 => ?_) (fun c18 => ?_)
      · refine lv_aload_n hx hb dX1_appetite_25 rfl (lv_at hl 0 rfl) ?_
        refine va_get (D := (dC, dI)) (ci := 1) (v := .ref (a 3)) (C := RX1) (T := TX1) (N := 16) hx hb hts hin hown hK hP 0 rfl rfl 3 (by decide) hw0 (fun _ h9 => h9) rfl dX1_appetite_26 ?_
        refine lv_iload_n hx hb dX1_appetite_29 rfl (lv_at hl 1 rfl) ?_
        refine va_zald (f := rca) hx hb hK hP 3 1 rfl rfl (isPoint_in hpc hn c5) dX1_appetite_30 ?_
        refine lv_if_eq (tgt := 38) hx hb dX1_appetite_31 (by decide) (fun c31 => ?_) (fun c31 => ?_)
        · refine lv_iconst (v := 3) hx hb dX1_appetite_38 (by decide) ?_
          refine va_put (D := (dC, dI)) (ci := 1) (v := .int 3) (ty := .int) (C := RX1) (T := TX1) (N := 16) hx hb hts hin tyX1 tyX1_ok nmX1 hown hK hP hD hS 0 rfl rfl 15 (by decide) hw1 (fun _ h9 => h9) rfl mfd15 rfl rfl (Nat.le_of_ble_eq_true rfl) dX1_appetite_39 (fun H locs hP hD hS => ?_)
          have hP : va_P (dC, dI) vwCl (mW cI cZ h a rpt rph rgr rca rne rap rle rfu rba rru rti rtk rsv rgi rpa 3) H := hP
          have hD : va_D A (mW cI cZ h a rpt rph rgr rca rne rap rle rfu rba rru rti rtk rsv rgi rpa 3) := hD
          refine lv_aload_n hx hb dX1_appetite_42 rfl (lv_at hl 0 rfl) ?_
          refine va_get (D := (dC, dI)) (ci := 1) (v := .int 3) (C := RX1) (T := TX1) (N := 16) hx hb hts hin hown hK hP 0 rfl rfl 15 (by decide) hw1 (fun _ h9 => h9) rfl dX1_appetite_43 ?_
          refine lv_if_le (tgt := 51) hx hb dX1_appetite_46 (by decide) (fun c => absurd c (by decide)) (fun _ => ?_)
          refine lv_iconst (v := 0) hx hb dX1_appetite_49 (by decide) ?_
          have hP9 := hP; have hD9 := hD
          subst hz1
          have hP8 : va_P (dC, dI) vwCl (mW cI cZ h a rpt rph rgr rca rne ((X1_appetite rpt rca rap n i x).2.1) rle rfu rba rru rti rtk rsv rgi rpa ((X1_appetite rpt rca rap n i x).2.2)) H := by rw [X1_appetite, if_neg c5, if_neg c18, if_pos c31]; exact hP9
          have hD8 : va_D A (mW cI cZ h a rpt rph rgr rca rne ((X1_appetite rpt rca rap n i x).2.1) rle rfu rba rru rti rtk rsv rgi rpa ((X1_appetite rpt rca rap n i x).2.2)) := by rw [X1_appetite, if_neg c5, if_neg c18, if_pos c31]; exact hD9
          exact hret H locs 50 ls 0 hS hP8 hD8 (by rw [X1_appetite, if_neg c5, if_neg c18, if_pos c31]) dX1_appetite_50
        · refine lv_iconst (v := 0) hx hb dX1_appetite_34 (by decide) ?_
          refine lv_goto (tgt := 39) hx hb dX1_appetite_35 (by decide) ?_
          refine va_put (D := (dC, dI)) (ci := 1) (v := .int 0) (ty := .int) (C := RX1) (T := TX1) (N := 16) hx hb hts hin tyX1 tyX1_ok nmX1 hown hK hP hD hS 0 rfl rfl 15 (by decide) hw1 (fun _ h9 => h9) rfl mfd15 rfl rfl (Nat.le_of_ble_eq_true rfl) dX1_appetite_39 (fun H locs hP hD hS => ?_)
          have hP : va_P (dC, dI) vwCl (mW cI cZ h a rpt rph rgr rca rne rap rle rfu rba rru rti rtk rsv rgi rpa 0) H := hP
          have hD : va_D A (mW cI cZ h a rpt rph rgr rca rne rap rle rfu rba rru rti rtk rsv rgi rpa 0) := hD
          refine lv_aload_n hx hb dX1_appetite_42 rfl (lv_at hl 0 rfl) ?_
          refine va_get (D := (dC, dI)) (ci := 1) (v := .int 0) (C := RX1) (T := TX1) (N := 16) hx hb hts hin hown hK hP 0 rfl rfl 15 (by decide) hw1 (fun _ h9 => h9) rfl dX1_appetite_43 ?_
          refine lv_if_le (tgt := 51) hx hb dX1_appetite_46 (by decide) (fun _ => ?_) (fun c => absurd (by decide) c)
          refine lv_aload_n hx hb dX1_appetite_51 rfl (lv_at hl 0 rfl) ?_
          refine va_get (D := (dC, dI)) (ci := 1) (v := .ref (a 5)) (C := RX1) (T := TX1) (N := 16) hx hb hts hin hown hK hP 0 rfl rfl 5 (by decide) hw2 (fun _ h9 => h9) rfl dX1_appetite_52 ?_
          refine lv_iload_n hx hb dX1_appetite_55 rfl (lv_at hl 1 rfl) ?_
          refine va_iald (f := rap) hx hb hK hP 5 0 rfl rfl (isPoint_in hpc hn c5) dX1_appetite_56 ?_
          refine lv_istore_n (lv' := [(3, .int (rap i.toNatClampNeg)), (0, .ref h), (1, .int i), (2, .int x)]) hx hb dX1_appetite_57 rfl hl (by decide) rfl (fun ls hl => ?_)
          refine lv_aload_n hx hb dX1_appetite_58 rfl (lv_at hl 1 rfl) ?_
          refine va_get (D := (dC, dI)) (ci := 1) (v := .ref (a 5)) (C := RX1) (T := TX1) (N := 16) hx hb hts hin hown hK hP 0 rfl rfl 5 (by decide) hw2 (fun _ h9 => h9) rfl dX1_appetite_59 ?_
          refine lv_iload_n hx hb dX1_appetite_62 rfl (lv_at hl 2 rfl) ?_
          refine lv_iload_n hx hb dX1_appetite_63 rfl (lv_at hl 3 rfl) ?_
          refine va_iast (f := rap) hx hb hK hP hD hS 5 0 rfl rfl (isPoint_in hpc hn c5) dX1_appetite_64 (fun H locs hP hD hS => ?_)
          obtain ⟨z2, hz2⟩ : ∃ z : AR, z = (upd rap i.toNatClampNeg x) := ⟨_, rfl⟩
          rw [← hz2] at hP hD
          have hP : va_P (dC, dI) vwCl (mW cI cZ h a rpt rph rgr rca rne z2 rle rfu rba rru rti rtk rsv rgi rpa 0) H := hP
          have hD : va_D A (mW cI cZ h a rpt rph rgr rca rne z2 rle rfu rba rru rti rtk rsv rgi rpa 0) := hD
          refine lv_iload_n hx hb dX1_appetite_65 rfl (lv_at hl 0 rfl) ?_
          have hP9 := hP; have hD9 := hD
          subst hz1 hz2
          have hP8 : va_P (dC, dI) vwCl (mW cI cZ h a rpt rph rgr rca rne ((X1_appetite rpt rca rap n i x).2.1) rle rfu rba rru rti rtk rsv rgi rpa ((X1_appetite rpt rca rap n i x).2.2)) H := by rw [X1_appetite, if_neg c5, if_neg c18, if_neg c31]; exact hP9
          have hD8 : va_D A (mW cI cZ h a rpt rph rgr rca rne ((X1_appetite rpt rca rap n i x).2.1) rle rfu rba rru rti rtk rsv rgi rpa ((X1_appetite rpt rca rap n i x).2.2)) := by rw [X1_appetite, if_neg c5, if_neg c18, if_neg c31]; exact hD9
          exact hret H locs 66 ls (rap i.toNatClampNeg) hS hP8 hD8 (by rw [X1_appetite, if_neg c5, if_neg c18, if_neg c31]) dX1_appetite_66
      · refine lv_iconst (v := 2) hx hb dX1_appetite_21 (by decide) ?_
        refine lv_goto (tgt := 39) hx hb dX1_appetite_22 (by decide) ?_
        refine va_put (D := (dC, dI)) (ci := 1) (v := .int 2) (ty := .int) (C := RX1) (T := TX1) (N := 16) hx hb hts hin tyX1 tyX1_ok nmX1 hown hK hP hD hS 0 rfl rfl 15 (by decide) hw1 (fun _ h9 => h9) rfl mfd15 rfl rfl (Nat.le_of_ble_eq_true rfl) dX1_appetite_39 (fun H locs hP hD hS => ?_)
        have hP : va_P (dC, dI) vwCl (mW cI cZ h a rpt rph rgr rca rne rap rle rfu rba rru rti rtk rsv rgi rpa 2) H := hP
        have hD : va_D A (mW cI cZ h a rpt rph rgr rca rne rap rle rfu rba rru rti rtk rsv rgi rpa 2) := hD
        refine lv_aload_n hx hb dX1_appetite_42 rfl (lv_at hl 0 rfl) ?_
        refine va_get (D := (dC, dI)) (ci := 1) (v := .int 2) (C := RX1) (T := TX1) (N := 16) hx hb hts hin hown hK hP 0 rfl rfl 15 (by decide) hw1 (fun _ h9 => h9) rfl dX1_appetite_43 ?_
        refine lv_if_le (tgt := 51) hx hb dX1_appetite_46 (by decide) (fun c => absurd c (by decide)) (fun _ => ?_)
        refine lv_iconst (v := 0) hx hb dX1_appetite_49 (by decide) ?_
        have hP9 := hP; have hD9 := hD
        subst hz1
        have hP8 : va_P (dC, dI) vwCl (mW cI cZ h a rpt rph rgr rca rne ((X1_appetite rpt rca rap n i x).2.1) rle rfu rba rru rti rtk rsv rgi rpa ((X1_appetite rpt rca rap n i x).2.2)) H := by rw [X1_appetite, if_neg c5, if_pos c18]; exact hP9
        have hD8 : va_D A (mW cI cZ h a rpt rph rgr rca rne ((X1_appetite rpt rca rap n i x).2.1) rle rfu rba rru rti rtk rsv rgi rpa ((X1_appetite rpt rca rap n i x).2.2)) := by rw [X1_appetite, if_neg c5, if_pos c18]; exact hD9
        exact hret H locs 50 ls 0 hS hP8 hD8 (by rw [X1_appetite, if_neg c5, if_pos c18]) dX1_appetite_50
    · refine lv_iconst (v := 0) hx hb dX1_appetite_8 (by decide) ?_
      have hP9 := hP; have hD9 := hD
      subst hz1
      have hP8 : va_P (dC, dI) vwCl (mW cI cZ h a rpt rph rgr rca rne ((X1_appetite rpt rca rap n i x).2.1) rle rfu rba rru rti rtk rsv rgi rpa ((X1_appetite rpt rca rap n i x).2.2)) H := by rw [X1_appetite, if_pos c5]; exact hP9
      have hD8 : va_D A (mW cI cZ h a rpt rph rgr rca rne ((X1_appetite rpt rca rap n i x).2.1) rle rfu rba rru rti rtk rsv rgi rpa ((X1_appetite rpt rca rap n i x).2.2)) := by rw [X1_appetite, if_pos c5]; exact hD9
      exact hret H locs 9 ls 0 hS hP8 hD8 (by rw [X1_appetite, if_pos c5]) dX1_appetite_9
  exact hW _ _ hP hD hS
def X1_stay (rpt : Int32) (rca : AR) (rle : AR) (rti : Int32) (n : Nat) (i : Int32) (x : Int32) : Int32 × AR × Int32 := (if (X1_isPoint rpt i).1 = 0 then (0, rle, ((X1_isPoint rpt i).2)) else (if (X1_isIn x 1 500) = 0 then (0, rle, 2) else (if (rca i.toNatClampNeg) = 0 then (0, rle, 3) else ((X1_stepsLeft (upd rle i.toNatClampNeg ((rti + (X1_stepsLeft rle rti i)) + x)) rti i), (upd rle i.toNatClampNeg ((rti + (X1_stepsLeft rle rti i)) + x)), 0))))
abbrev rmX1_stay : Room := { frames := 2, cells := 0, slots := 0, locals := 43 }
theorem hd_X1_stay : yX1_stay.cls = RX1 ∧ yX1_stay.cls ≠ "java/lang/invoke/MethodHandle" ∧ yX1_stay.cls ≠ "java/lang/invoke/VarHandle" ∧ (parseMethodDescriptor yX1_stay.desc).map (fun d => d.parameters.length) = some 2 := by decide +kernel
set_option maxHeartbeats 4000000 in
set_option maxRecDepth 100000 in
theorem c_X1_stay (l : Launch) (dC : Nat → ClassId) (dI : Nat → Nat → Nat) (cI cZ : ClassId) (h : Nat) (a : Nat → Nat) (rpt : Int32) (rph : AR) (rgr : AR) (rca : AR) (rne : AR) (rap : AR) (rle : AR) (rfu : AR) (rba : Int32) (rru : Int32) (rti : Int32) (rtk : Int32) (rsv : Int32) (rgi : AR) (rpa : AR) (rth : Int32) (n : Nat) (i : Int32) (x : Int32) (hpc : rpt = nI n) (hn : n ≤ 8) : Ki l yX1_stay wsX1_stay rmX1_stay dC dI cI cZ [.ref h, .int i, .int x] (mW cI cZ h a rpt rph rgr rca rne rap rle rfu rba rru rti rtk rsv rgi rpa rth) (mW cI cZ h a rpt rph rgr rca rne rap ((X1_stay rpt rca rle rti n i x).2.1) rfu rba rru rti rtk rsv rgi rpa ((X1_stay rpt rca rle rti n i x).2.2)) (X1_stay rpt rca rle rti n i x).1 := by
  refine k_enter_i (cc := cX1_stay) (maxL := 3) (ret := some .int) (by decide) rfl (Nat.le_of_ble_eq_true rfl) ?_
  intro p e s m below meth c A ls hC hr hlocks hK hP hD hS hA hl
  generalize List.toArray _ = args at hC ⊢
  obtain ⟨hx, hb, hml, hown, hts⟩ := id hC
  have hret : ∀ (H : Heap) (locs : List Loc) (pc : Nat) (ls : Array Slot) (r : Int32), va_S A s.heap H locs → va_P (dC, dI) vwCl (mW cI cZ h a rpt rph rgr rca rne rap ((X1_stay rpt rca rle rti n i x).2.1) rfu rba rru rti rtk rsv rgi rpa ((X1_stay rpt rca rle rti n i x).2.2)) H → va_D A (mW cI cZ h a rpt rph rgr rca rne rap ((X1_stay rpt rca rle rti n i x).2.1) rfu rba rru rti rtk rsv rgi rpa ((X1_stay rpt rca rle rti n i x).2.2)) → r = (X1_stay rpt rca rle rti n i x).1 → decode cX1_stay pc = .ok (.ireturn, 1) → W p l e rmX1_stay s m args below meth c H locs 0 0 (MQ below (va_Qi (fun r (_ : Unit) => r = (X1_stay rpt rca rle rti n i x).1) (kBeh dC dI A (mW cI cZ h a rpt rph rgr rca rne rap ((X1_stay rpt rca rle rti n i x).2.1) rfu rba rru rti rtk rsv rgi rpa ((X1_stay rpt rca rle rti n i x).2.2))) A) args s 0 0 A) (F0 m pc ls [.int r]) := fun H locs pc ls r hS hP hD hv d => k_iret hx hb hr hlocks hS hP hD hv d
  generalize MQ below _ _ _ _ _ _ = Q at hret ⊢
  have hin : ∀ w ∈ wsX10, w ∈ wsX1_stay := by decide +kernel
  have hw0 := hts (.fieldLink RX1 16 "ChargeParkModel" "car" "[Z") (by decide +kernel)
  have hw1 := hts (.fieldLink RX1 42 "ChargeParkModel" "thrown" "I") (by decide +kernel)
  have hw2 := hts (.fieldLink RX1 26 "ChargeParkModel" "leaves" "[I") (by decide +kernel)
  have hw3 := hts (.fieldLink RX1 55 "ChargeParkModel" "time" "I") (by decide +kernel)
  have hl : lv_has ls 3 [(0, .ref h), (1, .int i), (2, .int x)] := hl
  have hP : va_P (dC, dI) vwCl (mW cI cZ h a rpt rph rgr rca rne rap rle rfu rba rru rti rtk rsv rgi rpa rth) s.heap := hP
  have hW : ∀ (H : Heap) (locs : List Loc), va_P (dC, dI) vwCl (mW cI cZ h a rpt rph rgr rca rne rap rle rfu rba rru rti rtk rsv rgi rpa rth) H → va_D A (mW cI cZ h a rpt rph rgr rca rne rap rle rfu rba rru rti rtk rsv rgi rpa rth) → va_S A s.heap H locs → W p l e rmX1_stay s m args below meth c H locs 0 0 Q (F0 m 0 ls []) := by
    intro H locs hP hD hS
    refine lv_aload_n hx hb dX1_stay_0 rfl (lv_at hl 0 rfl) ?_
    refine lv_iload_n hx hb dX1_stay_1 rfl (lv_at hl 1 rfl) ?_
    refine k_calli (rest := []) (q0 := 0) hC (c_X1_isPoint l dC dI cI cZ h a rpt rph rgr rca rne rap rle rfu rba rru rti rtk rsv rgi rpa rth  i ) (cwV 1 hts gX1_stay_X1_isPoint rfl rfl rfl hd_X1_isPoint ⟨Nat.le_of_ble_eq_true rfl, Nat.le_of_ble_eq_true rfl⟩) hK hP hD hS hA rfl rfl rfl hl.1 (Nat.le_of_ble_eq_true rfl) dX1_stay_2 rfl ⟨Nat.zero_le _, Nat.zero_le _⟩ (fun H locs hP hD hS => ?_)
    obtain ⟨z1, hz1⟩ : ∃ z : Int32, z = ((X1_isPoint rpt i).2) := ⟨_, rfl⟩
    rw [← hz1] at hP hD
    have hP : va_P (dC, dI) vwCl (mW cI cZ h a rpt rph rgr rca rne rap rle rfu rba rru rti rtk rsv rgi rpa z1) H := hP
    have hD : va_D A (mW cI cZ h a rpt rph rgr rca rne rap rle rfu rba rru rti rtk rsv rgi rpa z1) := hD
    refine lv_if_ne (tgt := 10) hx hb dX1_stay_5 (by decide) (fun c5 => ?_) (fun c5 => ?_)
    · refine lv_aload_n hx hb dX1_stay_10 rfl (lv_at hl 0 rfl) ?_
      refine lv_iload_n hx hb dX1_stay_11 rfl (lv_at hl 2 rfl) ?_
      refine lv_iconst (v := 1) hx hb dX1_stay_12 (by decide) ?_
      refine lv_sipush (v := 500) hx hb dX1_stay_13 (by decide) ?_
      refine k_calls (rest := [.ref h]) (As := [.int x, .int 1, .int 500]) hC (c_X1_isIn l dC dI cI cZ (mW cI cZ h a rpt rph rgr rca rne rap rle rfu rba rru rti rtk rsv rgi rpa z1) x 1 500 ) (va_cwS 3 hts gX1_stay_X1_isIn rfl rfl rfl hd_X1_isIn ⟨Nat.le_of_ble_eq_true rfl, Nat.le_of_ble_eq_true rfl⟩) hK hP hD hS hA rfl hl.1 (Nat.le_of_ble_eq_true rfl) dX1_stay_16 rfl ⟨Nat.zero_le _, Nat.zero_le _⟩ (fun H locs hP hD hS => ?_)
      refine lv_if_ne (tgt := 26) hx hb dX1_stay_19 (by decide) (fun c19 => ?_) (fun c19 => ?_)
      · refine lv_aload_n hx hb dX1_stay_26 rfl (lv_at hl 0 rfl) ?_
        refine va_get (D := (dC, dI)) (ci := 1) (v := .ref (a 3)) (C := RX1) (T := TX1) (N := 16) hx hb hts hin hown hK hP 0 rfl rfl 3 (by decide) hw0 (fun _ h9 => h9) rfl dX1_stay_27 ?_
        refine lv_iload_n hx hb dX1_stay_30 rfl (lv_at hl 1 rfl) ?_
        refine va_zald (f := rca) hx hb hK hP 3 1 rfl rfl (isPoint_in hpc hn c5) dX1_stay_31 ?_
        refine lv_if_eq (tgt := 39) hx hb dX1_stay_32 (by decide) (fun c32 => ?_) (fun c32 => ?_)
        · refine lv_iconst (v := 3) hx hb dX1_stay_39 (by decide) ?_
          refine va_put (D := (dC, dI)) (ci := 1) (v := .int 3) (ty := .int) (C := RX1) (T := TX1) (N := 16) hx hb hts hin tyX1 tyX1_ok nmX1 hown hK hP hD hS 0 rfl rfl 15 (by decide) hw1 (fun _ h9 => h9) rfl mfd15 rfl rfl (Nat.le_of_ble_eq_true rfl) dX1_stay_40 (fun H locs hP hD hS => ?_)
          have hP : va_P (dC, dI) vwCl (mW cI cZ h a rpt rph rgr rca rne rap rle rfu rba rru rti rtk rsv rgi rpa 3) H := hP
          have hD : va_D A (mW cI cZ h a rpt rph rgr rca rne rap rle rfu rba rru rti rtk rsv rgi rpa 3) := hD
          refine lv_aload_n hx hb dX1_stay_43 rfl (lv_at hl 0 rfl) ?_
          refine va_get (D := (dC, dI)) (ci := 1) (v := .int 3) (C := RX1) (T := TX1) (N := 16) hx hb hts hin hown hK hP 0 rfl rfl 15 (by decide) hw1 (fun _ h9 => h9) rfl dX1_stay_44 ?_
          refine lv_if_le (tgt := 52) hx hb dX1_stay_47 (by decide) (fun c => absurd c (by decide)) (fun _ => ?_)
          refine lv_iconst (v := 0) hx hb dX1_stay_50 (by decide) ?_
          have hP9 := hP; have hD9 := hD
          subst hz1
          have hP8 : va_P (dC, dI) vwCl (mW cI cZ h a rpt rph rgr rca rne rap ((X1_stay rpt rca rle rti n i x).2.1) rfu rba rru rti rtk rsv rgi rpa ((X1_stay rpt rca rle rti n i x).2.2)) H := by rw [X1_stay, if_neg c5, if_neg c19, if_pos c32]; exact hP9
          have hD8 : va_D A (mW cI cZ h a rpt rph rgr rca rne rap ((X1_stay rpt rca rle rti n i x).2.1) rfu rba rru rti rtk rsv rgi rpa ((X1_stay rpt rca rle rti n i x).2.2)) := by rw [X1_stay, if_neg c5, if_neg c19, if_pos c32]; exact hD9
          exact hret H locs 51 ls 0 hS hP8 hD8 (by rw [X1_stay, if_neg c5, if_neg c19, if_pos c32]) dX1_stay_51
        · refine lv_iconst (v := 0) hx hb dX1_stay_35 (by decide) ?_
          refine lv_goto (tgt := 40) hx hb dX1_stay_36 (by decide) ?_
          refine va_put (D := (dC, dI)) (ci := 1) (v := .int 0) (ty := .int) (C := RX1) (T := TX1) (N := 16) hx hb hts hin tyX1 tyX1_ok nmX1 hown hK hP hD hS 0 rfl rfl 15 (by decide) hw1 (fun _ h9 => h9) rfl mfd15 rfl rfl (Nat.le_of_ble_eq_true rfl) dX1_stay_40 (fun H locs hP hD hS => ?_)
          have hP : va_P (dC, dI) vwCl (mW cI cZ h a rpt rph rgr rca rne rap rle rfu rba rru rti rtk rsv rgi rpa 0) H := hP
          have hD : va_D A (mW cI cZ h a rpt rph rgr rca rne rap rle rfu rba rru rti rtk rsv rgi rpa 0) := hD
          refine lv_aload_n hx hb dX1_stay_43 rfl (lv_at hl 0 rfl) ?_
          refine va_get (D := (dC, dI)) (ci := 1) (v := .int 0) (C := RX1) (T := TX1) (N := 16) hx hb hts hin hown hK hP 0 rfl rfl 15 (by decide) hw1 (fun _ h9 => h9) rfl dX1_stay_44 ?_
          refine lv_if_le (tgt := 52) hx hb dX1_stay_47 (by decide) (fun _ => ?_) (fun c => absurd (by decide) c)
          refine lv_aload_n hx hb dX1_stay_52 rfl (lv_at hl 0 rfl) ?_
          refine va_get (D := (dC, dI)) (ci := 1) (v := .ref (a 6)) (C := RX1) (T := TX1) (N := 16) hx hb hts hin hown hK hP 0 rfl rfl 6 (by decide) hw2 (fun _ h9 => h9) rfl dX1_stay_53 ?_
          refine lv_iload_n hx hb dX1_stay_56 rfl (lv_at hl 1 rfl) ?_
          refine lv_aload_n hx hb dX1_stay_57 rfl (lv_at hl 0 rfl) ?_
          refine va_get (D := (dC, dI)) (ci := 1) (v := .int rti) (C := RX1) (T := TX1) (N := 16) hx hb hts hin hown hK hP 0 rfl rfl 10 (by decide) hw3 (fun _ h9 => h9) rfl dX1_stay_58 ?_
          refine lv_aload_n hx hb dX1_stay_61 rfl (lv_at hl 0 rfl) ?_
          refine lv_iload_n hx hb dX1_stay_62 rfl (lv_at hl 1 rfl) ?_
          refine k_calli (rest := [.int rti, .int i, .ref (a 6)]) (q0 := 0) hC (c_X1_stepsLeft l dC dI cI cZ h a rpt rph rgr rca rne rap rle rfu rba rru rti rtk rsv rgi rpa 0  i (isPoint_in hpc hn c5)) (cwV 1 hts gX1_stay_X1_stepsLeft rfl rfl rfl hd_X1_stepsLeft ⟨Nat.le_of_ble_eq_true rfl, Nat.le_of_ble_eq_true rfl⟩) hK hP hD hS hA rfl rfl rfl hl.1 (Nat.le_of_ble_eq_true rfl) dX1_stay_63 rfl ⟨Nat.zero_le _, Nat.zero_le _⟩ (fun H locs hP hD hS => ?_)
          refine lv_iadd hx hb dX1_stay_66 ?_
          refine lv_iload_n hx hb dX1_stay_67 rfl (lv_at hl 2 rfl) ?_
          refine lv_iadd hx hb dX1_stay_68 ?_
          refine va_iast (f := rle) hx hb hK hP hD hS 6 0 rfl rfl (isPoint_in hpc hn c5) dX1_stay_69 (fun H locs hP hD hS => ?_)
          obtain ⟨z2, hz2⟩ : ∃ z : AR, z = (upd rle i.toNatClampNeg ((rti + (X1_stepsLeft rle rti i)) + x)) := ⟨_, rfl⟩
          rw [← hz2] at hP hD
          have hP : va_P (dC, dI) vwCl (mW cI cZ h a rpt rph rgr rca rne rap z2 rfu rba rru rti rtk rsv rgi rpa 0) H := hP
          have hD : va_D A (mW cI cZ h a rpt rph rgr rca rne rap z2 rfu rba rru rti rtk rsv rgi rpa 0) := hD
          refine lv_aload_n hx hb dX1_stay_70 rfl (lv_at hl 0 rfl) ?_
          refine lv_iload_n hx hb dX1_stay_71 rfl (lv_at hl 1 rfl) ?_
          refine k_calli (rest := []) (q0 := 0) hC (c_X1_stepsLeft l dC dI cI cZ h a rpt rph rgr rca rne rap z2 rfu rba rru rti rtk rsv rgi rpa 0  i (isPoint_in hpc hn c5)) (cwV 1 hts gX1_stay_X1_stepsLeft rfl rfl rfl hd_X1_stepsLeft ⟨Nat.le_of_ble_eq_true rfl, Nat.le_of_ble_eq_true rfl⟩) hK hP hD hS hA rfl rfl rfl hl.1 (Nat.le_of_ble_eq_true rfl) dX1_stay_72 rfl ⟨Nat.zero_le _, Nat.zero_le _⟩ (fun H locs hP hD hS => ?_)
          have hP9 := hP; have hD9 := hD
          subst hz1 hz2
          have hP8 : va_P (dC, dI) vwCl (mW cI cZ h a rpt rph rgr rca rne rap ((X1_stay rpt rca rle rti n i x).2.1) rfu rba rru rti rtk rsv rgi rpa ((X1_stay rpt rca rle rti n i x).2.2)) H := by rw [X1_stay, if_neg c5, if_neg c19, if_neg c32]; exact hP9
          have hD8 : va_D A (mW cI cZ h a rpt rph rgr rca rne rap ((X1_stay rpt rca rle rti n i x).2.1) rfu rba rru rti rtk rsv rgi rpa ((X1_stay rpt rca rle rti n i x).2.2)) := by rw [X1_stay, if_neg c5, if_neg c19, if_neg c32]; exact hD9
          exact hret H locs 75 ls (X1_stepsLeft (upd rle i.toNatClampNeg ((rti + (X1_stepsLeft rle rti i)) + x)) rti i) hS hP8 hD8 (by rw [X1_stay, if_neg c5, if_neg c19, if_neg c32]) dX1_stay_75
      · refine lv_iconst (v := 2) hx hb dX1_stay_22 (by decide) ?_
        refine lv_goto (tgt := 40) hx hb dX1_stay_23 (by decide) ?_
        refine va_put (D := (dC, dI)) (ci := 1) (v := .int 2) (ty := .int) (C := RX1) (T := TX1) (N := 16) hx hb hts hin tyX1 tyX1_ok nmX1 hown hK hP hD hS 0 rfl rfl 15 (by decide) hw1 (fun _ h9 => h9) rfl mfd15 rfl rfl (Nat.le_of_ble_eq_true rfl) dX1_stay_40 (fun H locs hP hD hS => ?_)
        have hP : va_P (dC, dI) vwCl (mW cI cZ h a rpt rph rgr rca rne rap rle rfu rba rru rti rtk rsv rgi rpa 2) H := hP
        have hD : va_D A (mW cI cZ h a rpt rph rgr rca rne rap rle rfu rba rru rti rtk rsv rgi rpa 2) := hD
        refine lv_aload_n hx hb dX1_stay_43 rfl (lv_at hl 0 rfl) ?_
        refine va_get (D := (dC, dI)) (ci := 1) (v := .int 2) (C := RX1) (T := TX1) (N := 16) hx hb hts hin hown hK hP 0 rfl rfl 15 (by decide) hw1 (fun _ h9 => h9) rfl dX1_stay_44 ?_
        refine lv_if_le (tgt := 52) hx hb dX1_stay_47 (by decide) (fun c => absurd c (by decide)) (fun _ => ?_)
        refine lv_iconst (v := 0) hx hb dX1_stay_50 (by decide) ?_
        have hP9 := hP; have hD9 := hD
        subst hz1
        have hP8 : va_P (dC, dI) vwCl (mW cI cZ h a rpt rph rgr rca rne rap ((X1_stay rpt rca rle rti n i x).2.1) rfu rba rru rti rtk rsv rgi rpa ((X1_stay rpt rca rle rti n i x).2.2)) H := by rw [X1_stay, if_neg c5, if_pos c19]; exact hP9
        have hD8 : va_D A (mW cI cZ h a rpt rph rgr rca rne rap ((X1_stay rpt rca rle rti n i x).2.1) rfu rba rru rti rtk rsv rgi rpa ((X1_stay rpt rca rle rti n i x).2.2)) := by rw [X1_stay, if_neg c5, if_pos c19]; exact hD9
        exact hret H locs 51 ls 0 hS hP8 hD8 (by rw [X1_stay, if_neg c5, if_pos c19]) dX1_stay_51
    · refine lv_iconst (v := 0) hx hb dX1_stay_8 (by decide) ?_
      have hP9 := hP; have hD9 := hD
      subst hz1
      have hP8 : va_P (dC, dI) vwCl (mW cI cZ h a rpt rph rgr rca rne rap ((X1_stay rpt rca rle rti n i x).2.1) rfu rba rru rti rtk rsv rgi rpa ((X1_stay rpt rca rle rti n i x).2.2)) H := by rw [X1_stay, if_pos c5]; exact hP9
      have hD8 : va_D A (mW cI cZ h a rpt rph rgr rca rne rap ((X1_stay rpt rca rle rti n i x).2.1) rfu rba rru rti rtk rsv rgi rpa ((X1_stay rpt rca rle rti n i x).2.2)) := by rw [X1_stay, if_pos c5]; exact hD9
      exact hret H locs 9 ls 0 hS hP8 hD8 (by rw [X1_stay, if_pos c5]) dX1_stay_9
  exact hW _ _ hP hD hS
def X1_time (rti : Int32)  : Int32 × Int32 := (rti, 0)
abbrev rmX1_time : Room := { frames := 0, cells := 0, slots := 0, locals := 0 }
theorem hd_X1_time : yX1_time.cls = RX1 ∧ yX1_time.cls ≠ "java/lang/invoke/MethodHandle" ∧ yX1_time.cls ≠ "java/lang/invoke/VarHandle" ∧ (parseMethodDescriptor yX1_time.desc).map (fun d => d.parameters.length) = some 0 := by decide +kernel
set_option maxHeartbeats 4000000 in
set_option maxRecDepth 100000 in
theorem c_X1_time (l : Launch) (dC : Nat → ClassId) (dI : Nat → Nat → Nat) (cI cZ : ClassId) (h : Nat) (a : Nat → Nat) (rpt : Int32) (rph : AR) (rgr : AR) (rca : AR) (rne : AR) (rap : AR) (rle : AR) (rfu : AR) (rba : Int32) (rru : Int32) (rti : Int32) (rtk : Int32) (rsv : Int32) (rgi : AR) (rpa : AR) (rth : Int32) : Ki l yX1_time wsX1_time rmX1_time dC dI cI cZ [.ref h] (mW cI cZ h a rpt rph rgr rca rne rap rle rfu rba rru rti rtk rsv rgi rpa rth) (mW cI cZ h a rpt rph rgr rca rne rap rle rfu rba rru rti rtk rsv rgi rpa ((X1_time rti).2)) (X1_time rti).1 := by
  refine k_enter_i (cc := cX1_time) (maxL := 1) (ret := some .int) (by decide) rfl (Nat.le_of_ble_eq_true rfl) ?_
  intro p e s m below meth c A ls hC hr hlocks hK hP hD hS hA hl
  generalize List.toArray _ = args at hC ⊢
  obtain ⟨hx, hb, hml, hown, hts⟩ := id hC
  have hret : ∀ (H : Heap) (locs : List Loc) (pc : Nat) (ls : Array Slot) (r : Int32), va_S A s.heap H locs → va_P (dC, dI) vwCl (mW cI cZ h a rpt rph rgr rca rne rap rle rfu rba rru rti rtk rsv rgi rpa ((X1_time rti).2)) H → va_D A (mW cI cZ h a rpt rph rgr rca rne rap rle rfu rba rru rti rtk rsv rgi rpa ((X1_time rti).2)) → r = (X1_time rti).1 → decode cX1_time pc = .ok (.ireturn, 1) → W p l e rmX1_time s m args below meth c H locs 0 0 (MQ below (va_Qi (fun r (_ : Unit) => r = (X1_time rti).1) (kBeh dC dI A (mW cI cZ h a rpt rph rgr rca rne rap rle rfu rba rru rti rtk rsv rgi rpa ((X1_time rti).2))) A) args s 0 0 A) (F0 m pc ls [.int r]) := fun H locs pc ls r hS hP hD hv d => k_iret hx hb hr hlocks hS hP hD hv d
  generalize MQ below _ _ _ _ _ _ = Q at hret ⊢
  have hin : ∀ w ∈ wsX10, w ∈ wsX1_time := by decide +kernel
  have hw0 := hts (.fieldLink RX1 42 "ChargeParkModel" "thrown" "I") (by decide +kernel)
  have hw1 := hts (.fieldLink RX1 55 "ChargeParkModel" "time" "I") (by decide +kernel)
  have hl : lv_has ls 1 [(0, .ref h)] := hl
  have hP : va_P (dC, dI) vwCl (mW cI cZ h a rpt rph rgr rca rne rap rle rfu rba rru rti rtk rsv rgi rpa rth) s.heap := hP
  have hW : ∀ (H : Heap) (locs : List Loc), va_P (dC, dI) vwCl (mW cI cZ h a rpt rph rgr rca rne rap rle rfu rba rru rti rtk rsv rgi rpa rth) H → va_D A (mW cI cZ h a rpt rph rgr rca rne rap rle rfu rba rru rti rtk rsv rgi rpa rth) → va_S A s.heap H locs → W p l e rmX1_time s m args below meth c H locs 0 0 Q (F0 m 0 ls []) := by
    intro H locs hP hD hS
    refine lv_aload_n hx hb dX1_time_0 rfl (lv_at hl 0 rfl) ?_
    refine lv_iconst (v := 0) hx hb dX1_time_1 (by decide) ?_
    refine va_put (D := (dC, dI)) (ci := 1) (v := .int 0) (ty := .int) (C := RX1) (T := TX1) (N := 16) hx hb hts hin tyX1 tyX1_ok nmX1 hown hK hP hD hS 0 rfl rfl 15 (by decide) hw0 (fun _ h9 => h9) rfl mfd15 rfl rfl (Nat.le_of_ble_eq_true rfl) dX1_time_2 (fun H locs hP hD hS => ?_)
    have hP : va_P (dC, dI) vwCl (mW cI cZ h a rpt rph rgr rca rne rap rle rfu rba rru rti rtk rsv rgi rpa 0) H := hP
    have hD : va_D A (mW cI cZ h a rpt rph rgr rca rne rap rle rfu rba rru rti rtk rsv rgi rpa 0) := hD
    refine lv_aload_n hx hb dX1_time_5 rfl (lv_at hl 0 rfl) ?_
    refine va_get (D := (dC, dI)) (ci := 1) (v := .int rti) (C := RX1) (T := TX1) (N := 16) hx hb hts hin hown hK hP 0 rfl rfl 10 (by decide) hw1 (fun _ h9 => h9) rfl dX1_time_6 ?_
    have hP8 : va_P (dC, dI) vwCl (mW cI cZ h a rpt rph rgr rca rne rap rle rfu rba rru rti rtk rsv rgi rpa ((X1_time rti).2)) H := by rw [X1_time]; exact hP
    have hD8 : va_D A (mW cI cZ h a rpt rph rgr rca rne rap rle rfu rba rru rti rtk rsv rgi rpa ((X1_time rti).2)) := by rw [X1_time]; exact hD
    exact hret H locs 9 ls rti hS hP8 hD8 (by rw [X1_time]) dX1_time_9
  exact hW _ _ hP hD hS
def X1_points (rpt : Int32)  : Int32 × Int32 := (rpt, 0)
abbrev rmX1_points : Room := { frames := 0, cells := 0, slots := 0, locals := 0 }
theorem hd_X1_points : yX1_points.cls = RX1 ∧ yX1_points.cls ≠ "java/lang/invoke/MethodHandle" ∧ yX1_points.cls ≠ "java/lang/invoke/VarHandle" ∧ (parseMethodDescriptor yX1_points.desc).map (fun d => d.parameters.length) = some 0 := by decide +kernel
set_option maxHeartbeats 4000000 in
set_option maxRecDepth 100000 in
theorem c_X1_points (l : Launch) (dC : Nat → ClassId) (dI : Nat → Nat → Nat) (cI cZ : ClassId) (h : Nat) (a : Nat → Nat) (rpt : Int32) (rph : AR) (rgr : AR) (rca : AR) (rne : AR) (rap : AR) (rle : AR) (rfu : AR) (rba : Int32) (rru : Int32) (rti : Int32) (rtk : Int32) (rsv : Int32) (rgi : AR) (rpa : AR) (rth : Int32) : Ki l yX1_points wsX1_points rmX1_points dC dI cI cZ [.ref h] (mW cI cZ h a rpt rph rgr rca rne rap rle rfu rba rru rti rtk rsv rgi rpa rth) (mW cI cZ h a rpt rph rgr rca rne rap rle rfu rba rru rti rtk rsv rgi rpa ((X1_points rpt).2)) (X1_points rpt).1 := by
  refine k_enter_i (cc := cX1_points) (maxL := 1) (ret := some .int) (by decide) rfl (Nat.le_of_ble_eq_true rfl) ?_
  intro p e s m below meth c A ls hC hr hlocks hK hP hD hS hA hl
  generalize List.toArray _ = args at hC ⊢
  obtain ⟨hx, hb, hml, hown, hts⟩ := id hC
  have hret : ∀ (H : Heap) (locs : List Loc) (pc : Nat) (ls : Array Slot) (r : Int32), va_S A s.heap H locs → va_P (dC, dI) vwCl (mW cI cZ h a rpt rph rgr rca rne rap rle rfu rba rru rti rtk rsv rgi rpa ((X1_points rpt).2)) H → va_D A (mW cI cZ h a rpt rph rgr rca rne rap rle rfu rba rru rti rtk rsv rgi rpa ((X1_points rpt).2)) → r = (X1_points rpt).1 → decode cX1_points pc = .ok (.ireturn, 1) → W p l e rmX1_points s m args below meth c H locs 0 0 (MQ below (va_Qi (fun r (_ : Unit) => r = (X1_points rpt).1) (kBeh dC dI A (mW cI cZ h a rpt rph rgr rca rne rap rle rfu rba rru rti rtk rsv rgi rpa ((X1_points rpt).2))) A) args s 0 0 A) (F0 m pc ls [.int r]) := fun H locs pc ls r hS hP hD hv d => k_iret hx hb hr hlocks hS hP hD hv d
  generalize MQ below _ _ _ _ _ _ = Q at hret ⊢
  have hin : ∀ w ∈ wsX10, w ∈ wsX1_points := by decide +kernel
  have hw0 := hts (.fieldLink RX1 42 "ChargeParkModel" "thrown" "I") (by decide +kernel)
  have hw1 := hts (.fieldLink RX1 49 "ChargeParkModel" "points" "I") (by decide +kernel)
  have hl : lv_has ls 1 [(0, .ref h)] := hl
  have hP : va_P (dC, dI) vwCl (mW cI cZ h a rpt rph rgr rca rne rap rle rfu rba rru rti rtk rsv rgi rpa rth) s.heap := hP
  have hW : ∀ (H : Heap) (locs : List Loc), va_P (dC, dI) vwCl (mW cI cZ h a rpt rph rgr rca rne rap rle rfu rba rru rti rtk rsv rgi rpa rth) H → va_D A (mW cI cZ h a rpt rph rgr rca rne rap rle rfu rba rru rti rtk rsv rgi rpa rth) → va_S A s.heap H locs → W p l e rmX1_points s m args below meth c H locs 0 0 Q (F0 m 0 ls []) := by
    intro H locs hP hD hS
    refine lv_aload_n hx hb dX1_points_0 rfl (lv_at hl 0 rfl) ?_
    refine lv_iconst (v := 0) hx hb dX1_points_1 (by decide) ?_
    refine va_put (D := (dC, dI)) (ci := 1) (v := .int 0) (ty := .int) (C := RX1) (T := TX1) (N := 16) hx hb hts hin tyX1 tyX1_ok nmX1 hown hK hP hD hS 0 rfl rfl 15 (by decide) hw0 (fun _ h9 => h9) rfl mfd15 rfl rfl (Nat.le_of_ble_eq_true rfl) dX1_points_2 (fun H locs hP hD hS => ?_)
    have hP : va_P (dC, dI) vwCl (mW cI cZ h a rpt rph rgr rca rne rap rle rfu rba rru rti rtk rsv rgi rpa 0) H := hP
    have hD : va_D A (mW cI cZ h a rpt rph rgr rca rne rap rle rfu rba rru rti rtk rsv rgi rpa 0) := hD
    refine lv_aload_n hx hb dX1_points_5 rfl (lv_at hl 0 rfl) ?_
    refine va_get (D := (dC, dI)) (ci := 1) (v := .int rpt) (C := RX1) (T := TX1) (N := 16) hx hb hts hin hown hK hP 0 rfl rfl 0 (by decide) hw1 (fun _ h9 => h9) rfl dX1_points_6 ?_
    have hP8 : va_P (dC, dI) vwCl (mW cI cZ h a rpt rph rgr rca rne rap rle rfu rba rru rti rtk rsv rgi rpa ((X1_points rpt).2)) H := by rw [X1_points]; exact hP
    have hD8 : va_D A (mW cI cZ h a rpt rph rgr rca rne rap rle rfu rba rru rti rtk rsv rgi rpa ((X1_points rpt).2)) := by rw [X1_points]; exact hD
    exact hret H locs 9 ls rpt hS hP8 hD8 (by rw [X1_points]) dX1_points_9
  exact hW _ _ hP hD hS
def X1_taken (rtk : Int32)  : Int32 × Int32 := (rtk, 0)
abbrev rmX1_taken : Room := { frames := 0, cells := 0, slots := 0, locals := 0 }
theorem hd_X1_taken : yX1_taken.cls = RX1 ∧ yX1_taken.cls ≠ "java/lang/invoke/MethodHandle" ∧ yX1_taken.cls ≠ "java/lang/invoke/VarHandle" ∧ (parseMethodDescriptor yX1_taken.desc).map (fun d => d.parameters.length) = some 0 := by decide +kernel
set_option maxHeartbeats 4000000 in
set_option maxRecDepth 100000 in
theorem c_X1_taken (l : Launch) (dC : Nat → ClassId) (dI : Nat → Nat → Nat) (cI cZ : ClassId) (h : Nat) (a : Nat → Nat) (rpt : Int32) (rph : AR) (rgr : AR) (rca : AR) (rne : AR) (rap : AR) (rle : AR) (rfu : AR) (rba : Int32) (rru : Int32) (rti : Int32) (rtk : Int32) (rsv : Int32) (rgi : AR) (rpa : AR) (rth : Int32) : Ki l yX1_taken wsX1_taken rmX1_taken dC dI cI cZ [.ref h] (mW cI cZ h a rpt rph rgr rca rne rap rle rfu rba rru rti rtk rsv rgi rpa rth) (mW cI cZ h a rpt rph rgr rca rne rap rle rfu rba rru rti rtk rsv rgi rpa ((X1_taken rtk).2)) (X1_taken rtk).1 := by
  refine k_enter_i (cc := cX1_taken) (maxL := 1) (ret := some .int) (by decide) rfl (Nat.le_of_ble_eq_true rfl) ?_
  intro p e s m below meth c A ls hC hr hlocks hK hP hD hS hA hl
  generalize List.toArray _ = args at hC ⊢
  obtain ⟨hx, hb, hml, hown, hts⟩ := id hC
  have hret : ∀ (H : Heap) (locs : List Loc) (pc : Nat) (ls : Array Slot) (r : Int32), va_S A s.heap H locs → va_P (dC, dI) vwCl (mW cI cZ h a rpt rph rgr rca rne rap rle rfu rba rru rti rtk rsv rgi rpa ((X1_taken rtk).2)) H → va_D A (mW cI cZ h a rpt rph rgr rca rne rap rle rfu rba rru rti rtk rsv rgi rpa ((X1_taken rtk).2)) → r = (X1_taken rtk).1 → decode cX1_taken pc = .ok (.ireturn, 1) → W p l e rmX1_taken s m args below meth c H locs 0 0 (MQ below (va_Qi (fun r (_ : Unit) => r = (X1_taken rtk).1) (kBeh dC dI A (mW cI cZ h a rpt rph rgr rca rne rap rle rfu rba rru rti rtk rsv rgi rpa ((X1_taken rtk).2))) A) args s 0 0 A) (F0 m pc ls [.int r]) := fun H locs pc ls r hS hP hD hv d => k_iret hx hb hr hlocks hS hP hD hv d
  generalize MQ below _ _ _ _ _ _ = Q at hret ⊢
  have hin : ∀ w ∈ wsX10, w ∈ wsX1_taken := by decide +kernel
  have hw0 := hts (.fieldLink RX1 42 "ChargeParkModel" "thrown" "I") (by decide +kernel)
  have hw1 := hts (.fieldLink RX1 113 "ChargeParkModel" "taken" "I") (by decide +kernel)
  have hl : lv_has ls 1 [(0, .ref h)] := hl
  have hP : va_P (dC, dI) vwCl (mW cI cZ h a rpt rph rgr rca rne rap rle rfu rba rru rti rtk rsv rgi rpa rth) s.heap := hP
  have hW : ∀ (H : Heap) (locs : List Loc), va_P (dC, dI) vwCl (mW cI cZ h a rpt rph rgr rca rne rap rle rfu rba rru rti rtk rsv rgi rpa rth) H → va_D A (mW cI cZ h a rpt rph rgr rca rne rap rle rfu rba rru rti rtk rsv rgi rpa rth) → va_S A s.heap H locs → W p l e rmX1_taken s m args below meth c H locs 0 0 Q (F0 m 0 ls []) := by
    intro H locs hP hD hS
    refine lv_aload_n hx hb dX1_taken_0 rfl (lv_at hl 0 rfl) ?_
    refine lv_iconst (v := 0) hx hb dX1_taken_1 (by decide) ?_
    refine va_put (D := (dC, dI)) (ci := 1) (v := .int 0) (ty := .int) (C := RX1) (T := TX1) (N := 16) hx hb hts hin tyX1 tyX1_ok nmX1 hown hK hP hD hS 0 rfl rfl 15 (by decide) hw0 (fun _ h9 => h9) rfl mfd15 rfl rfl (Nat.le_of_ble_eq_true rfl) dX1_taken_2 (fun H locs hP hD hS => ?_)
    have hP : va_P (dC, dI) vwCl (mW cI cZ h a rpt rph rgr rca rne rap rle rfu rba rru rti rtk rsv rgi rpa 0) H := hP
    have hD : va_D A (mW cI cZ h a rpt rph rgr rca rne rap rle rfu rba rru rti rtk rsv rgi rpa 0) := hD
    refine lv_aload_n hx hb dX1_taken_5 rfl (lv_at hl 0 rfl) ?_
    refine va_get (D := (dC, dI)) (ci := 1) (v := .int rtk) (C := RX1) (T := TX1) (N := 16) hx hb hts hin hown hK hP 0 rfl rfl 11 (by decide) hw1 (fun _ h9 => h9) rfl dX1_taken_6 ?_
    have hP8 : va_P (dC, dI) vwCl (mW cI cZ h a rpt rph rgr rca rne rap rle rfu rba rru rti rtk rsv rgi rpa ((X1_taken rtk).2)) H := by rw [X1_taken]; exact hP
    have hD8 : va_D A (mW cI cZ h a rpt rph rgr rca rne rap rle rfu rba rru rti rtk rsv rgi rpa ((X1_taken rtk).2)) := by rw [X1_taken]; exact hD
    exact hret H locs 9 ls rtk hS hP8 hD8 (by rw [X1_taken]) dX1_taken_9
  exact hW _ _ hP hD hS
def X1_served (rsv : Int32)  : Int32 × Int32 := (rsv, 0)
abbrev rmX1_served : Room := { frames := 0, cells := 0, slots := 0, locals := 0 }
theorem hd_X1_served : yX1_served.cls = RX1 ∧ yX1_served.cls ≠ "java/lang/invoke/MethodHandle" ∧ yX1_served.cls ≠ "java/lang/invoke/VarHandle" ∧ (parseMethodDescriptor yX1_served.desc).map (fun d => d.parameters.length) = some 0 := by decide +kernel
set_option maxHeartbeats 4000000 in
set_option maxRecDepth 100000 in
theorem c_X1_served (l : Launch) (dC : Nat → ClassId) (dI : Nat → Nat → Nat) (cI cZ : ClassId) (h : Nat) (a : Nat → Nat) (rpt : Int32) (rph : AR) (rgr : AR) (rca : AR) (rne : AR) (rap : AR) (rle : AR) (rfu : AR) (rba : Int32) (rru : Int32) (rti : Int32) (rtk : Int32) (rsv : Int32) (rgi : AR) (rpa : AR) (rth : Int32) : Ki l yX1_served wsX1_served rmX1_served dC dI cI cZ [.ref h] (mW cI cZ h a rpt rph rgr rca rne rap rle rfu rba rru rti rtk rsv rgi rpa rth) (mW cI cZ h a rpt rph rgr rca rne rap rle rfu rba rru rti rtk rsv rgi rpa ((X1_served rsv).2)) (X1_served rsv).1 := by
  refine k_enter_i (cc := cX1_served) (maxL := 1) (ret := some .int) (by decide) rfl (Nat.le_of_ble_eq_true rfl) ?_
  intro p e s m below meth c A ls hC hr hlocks hK hP hD hS hA hl
  generalize List.toArray _ = args at hC ⊢
  obtain ⟨hx, hb, hml, hown, hts⟩ := id hC
  have hret : ∀ (H : Heap) (locs : List Loc) (pc : Nat) (ls : Array Slot) (r : Int32), va_S A s.heap H locs → va_P (dC, dI) vwCl (mW cI cZ h a rpt rph rgr rca rne rap rle rfu rba rru rti rtk rsv rgi rpa ((X1_served rsv).2)) H → va_D A (mW cI cZ h a rpt rph rgr rca rne rap rle rfu rba rru rti rtk rsv rgi rpa ((X1_served rsv).2)) → r = (X1_served rsv).1 → decode cX1_served pc = .ok (.ireturn, 1) → W p l e rmX1_served s m args below meth c H locs 0 0 (MQ below (va_Qi (fun r (_ : Unit) => r = (X1_served rsv).1) (kBeh dC dI A (mW cI cZ h a rpt rph rgr rca rne rap rle rfu rba rru rti rtk rsv rgi rpa ((X1_served rsv).2))) A) args s 0 0 A) (F0 m pc ls [.int r]) := fun H locs pc ls r hS hP hD hv d => k_iret hx hb hr hlocks hS hP hD hv d
  generalize MQ below _ _ _ _ _ _ = Q at hret ⊢
  have hin : ∀ w ∈ wsX10, w ∈ wsX1_served := by decide +kernel
  have hw0 := hts (.fieldLink RX1 42 "ChargeParkModel" "thrown" "I") (by decide +kernel)
  have hw1 := hts (.fieldLink RX1 79 "ChargeParkModel" "served" "I") (by decide +kernel)
  have hl : lv_has ls 1 [(0, .ref h)] := hl
  have hP : va_P (dC, dI) vwCl (mW cI cZ h a rpt rph rgr rca rne rap rle rfu rba rru rti rtk rsv rgi rpa rth) s.heap := hP
  have hW : ∀ (H : Heap) (locs : List Loc), va_P (dC, dI) vwCl (mW cI cZ h a rpt rph rgr rca rne rap rle rfu rba rru rti rtk rsv rgi rpa rth) H → va_D A (mW cI cZ h a rpt rph rgr rca rne rap rle rfu rba rru rti rtk rsv rgi rpa rth) → va_S A s.heap H locs → W p l e rmX1_served s m args below meth c H locs 0 0 Q (F0 m 0 ls []) := by
    intro H locs hP hD hS
    refine lv_aload_n hx hb dX1_served_0 rfl (lv_at hl 0 rfl) ?_
    refine lv_iconst (v := 0) hx hb dX1_served_1 (by decide) ?_
    refine va_put (D := (dC, dI)) (ci := 1) (v := .int 0) (ty := .int) (C := RX1) (T := TX1) (N := 16) hx hb hts hin tyX1 tyX1_ok nmX1 hown hK hP hD hS 0 rfl rfl 15 (by decide) hw0 (fun _ h9 => h9) rfl mfd15 rfl rfl (Nat.le_of_ble_eq_true rfl) dX1_served_2 (fun H locs hP hD hS => ?_)
    have hP : va_P (dC, dI) vwCl (mW cI cZ h a rpt rph rgr rca rne rap rle rfu rba rru rti rtk rsv rgi rpa 0) H := hP
    have hD : va_D A (mW cI cZ h a rpt rph rgr rca rne rap rle rfu rba rru rti rtk rsv rgi rpa 0) := hD
    refine lv_aload_n hx hb dX1_served_5 rfl (lv_at hl 0 rfl) ?_
    refine va_get (D := (dC, dI)) (ci := 1) (v := .int rsv) (C := RX1) (T := TX1) (N := 16) hx hb hts hin hown hK hP 0 rfl rfl 12 (by decide) hw1 (fun _ h9 => h9) rfl dX1_served_6 ?_
    have hP8 : va_P (dC, dI) vwCl (mW cI cZ h a rpt rph rgr rca rne rap rle rfu rba rru rti rtk rsv rgi rpa ((X1_served rsv).2)) H := by rw [X1_served]; exact hP
    have hD8 : va_D A (mW cI cZ h a rpt rph rgr rca rne rap rle rfu rba rru rti rtk rsv rgi rpa ((X1_served rsv).2)) := by rw [X1_served]; exact hD
    exact hret H locs 9 ls rsv hS hP8 hD8 (by rw [X1_served]) dX1_served_9
  exact hW _ _ hP hD hS
def X1_need (rpt : Int32) (rca : AR) (rne : AR) (n : Nat) (i : Int32) : Int32 × Int32 := (if (X1_isPoint rpt i).1 = 0 then (0, ((X1_isPoint rpt i).2)) else (if (rca i.toNatClampNeg) = 0 then ((-1), ((X1_isPoint rpt i).2)) else ((rne i.toNatClampNeg), ((X1_isPoint rpt i).2))))
abbrev rmX1_need : Room := { frames := 2, cells := 0, slots := 0, locals := 43 }
theorem hd_X1_need : yX1_need.cls = RX1 ∧ yX1_need.cls ≠ "java/lang/invoke/MethodHandle" ∧ yX1_need.cls ≠ "java/lang/invoke/VarHandle" ∧ (parseMethodDescriptor yX1_need.desc).map (fun d => d.parameters.length) = some 1 := by decide +kernel
set_option maxHeartbeats 4000000 in
set_option maxRecDepth 100000 in
theorem c_X1_need (l : Launch) (dC : Nat → ClassId) (dI : Nat → Nat → Nat) (cI cZ : ClassId) (h : Nat) (a : Nat → Nat) (rpt : Int32) (rph : AR) (rgr : AR) (rca : AR) (rne : AR) (rap : AR) (rle : AR) (rfu : AR) (rba : Int32) (rru : Int32) (rti : Int32) (rtk : Int32) (rsv : Int32) (rgi : AR) (rpa : AR) (rth : Int32) (n : Nat) (i : Int32) (hpc : rpt = nI n) (hn : n ≤ 8) : Ki l yX1_need wsX1_need rmX1_need dC dI cI cZ [.ref h, .int i] (mW cI cZ h a rpt rph rgr rca rne rap rle rfu rba rru rti rtk rsv rgi rpa rth) (mW cI cZ h a rpt rph rgr rca rne rap rle rfu rba rru rti rtk rsv rgi rpa ((X1_need rpt rca rne n i).2)) (X1_need rpt rca rne n i).1 := by
  refine k_enter_i (cc := cX1_need) (maxL := 2) (ret := some .int) (by decide) rfl (Nat.le_of_ble_eq_true rfl) ?_
  intro p e s m below meth c A ls hC hr hlocks hK hP hD hS hA hl
  generalize List.toArray _ = args at hC ⊢
  obtain ⟨hx, hb, hml, hown, hts⟩ := id hC
  have hret : ∀ (H : Heap) (locs : List Loc) (pc : Nat) (ls : Array Slot) (r : Int32), va_S A s.heap H locs → va_P (dC, dI) vwCl (mW cI cZ h a rpt rph rgr rca rne rap rle rfu rba rru rti rtk rsv rgi rpa ((X1_need rpt rca rne n i).2)) H → va_D A (mW cI cZ h a rpt rph rgr rca rne rap rle rfu rba rru rti rtk rsv rgi rpa ((X1_need rpt rca rne n i).2)) → r = (X1_need rpt rca rne n i).1 → decode cX1_need pc = .ok (.ireturn, 1) → W p l e rmX1_need s m args below meth c H locs 0 0 (MQ below (va_Qi (fun r (_ : Unit) => r = (X1_need rpt rca rne n i).1) (kBeh dC dI A (mW cI cZ h a rpt rph rgr rca rne rap rle rfu rba rru rti rtk rsv rgi rpa ((X1_need rpt rca rne n i).2))) A) args s 0 0 A) (F0 m pc ls [.int r]) := fun H locs pc ls r hS hP hD hv d => k_iret hx hb hr hlocks hS hP hD hv d
  generalize MQ below _ _ _ _ _ _ = Q at hret ⊢
  have hin : ∀ w ∈ wsX10, w ∈ wsX1_need := by decide +kernel
  have hw0 := hts (.fieldLink RX1 16 "ChargeParkModel" "car" "[Z") (by decide +kernel)
  have hw1 := hts (.fieldLink RX1 20 "ChargeParkModel" "need" "[I") (by decide +kernel)
  have hl : lv_has ls 2 [(0, .ref h), (1, .int i)] := hl
  have hP : va_P (dC, dI) vwCl (mW cI cZ h a rpt rph rgr rca rne rap rle rfu rba rru rti rtk rsv rgi rpa rth) s.heap := hP
  have hW : ∀ (H : Heap) (locs : List Loc), va_P (dC, dI) vwCl (mW cI cZ h a rpt rph rgr rca rne rap rle rfu rba rru rti rtk rsv rgi rpa rth) H → va_D A (mW cI cZ h a rpt rph rgr rca rne rap rle rfu rba rru rti rtk rsv rgi rpa rth) → va_S A s.heap H locs → W p l e rmX1_need s m args below meth c H locs 0 0 Q (F0 m 0 ls []) := by
    intro H locs hP hD hS
    refine lv_aload_n hx hb dX1_need_0 rfl (lv_at hl 0 rfl) ?_
    refine lv_iload_n hx hb dX1_need_1 rfl (lv_at hl 1 rfl) ?_
    refine k_calli (rest := []) (q0 := 0) hC (c_X1_isPoint l dC dI cI cZ h a rpt rph rgr rca rne rap rle rfu rba rru rti rtk rsv rgi rpa rth  i ) (cwV 1 hts gX1_need_X1_isPoint rfl rfl rfl hd_X1_isPoint ⟨Nat.le_of_ble_eq_true rfl, Nat.le_of_ble_eq_true rfl⟩) hK hP hD hS hA rfl rfl rfl hl.1 (Nat.le_of_ble_eq_true rfl) dX1_need_2 rfl ⟨Nat.zero_le _, Nat.zero_le _⟩ (fun H locs hP hD hS => ?_)
    obtain ⟨z1, hz1⟩ : ∃ z : Int32, z = ((X1_isPoint rpt i).2) := ⟨_, rfl⟩
    rw [← hz1] at hP hD
    have hP : va_P (dC, dI) vwCl (mW cI cZ h a rpt rph rgr rca rne rap rle rfu rba rru rti rtk rsv rgi rpa z1) H := hP
    have hD : va_D A (mW cI cZ h a rpt rph rgr rca rne rap rle rfu rba rru rti rtk rsv rgi rpa z1) := hD
    refine lv_if_ne (tgt := 12) hx hb dX1_need_5 (by decide) (fun c5 => ?_) (fun c5 => ?_)
    · refine lv_aload_n hx hb dX1_need_12 rfl (lv_at hl 0 rfl) ?_
      refine va_get (D := (dC, dI)) (ci := 1) (v := .ref (a 3)) (C := RX1) (T := TX1) (N := 16) hx hb hts hin hown hK hP 0 rfl rfl 3 (by decide) hw0 (fun _ h9 => h9) rfl dX1_need_13 ?_
      refine lv_iload_n hx hb dX1_need_16 rfl (lv_at hl 1 rfl) ?_
      refine va_zald (f := rca) hx hb hK hP 3 1 rfl rfl (isPoint_in hpc hn c5) dX1_need_17 ?_
      refine lv_if_eq (tgt := 30) hx hb dX1_need_18 (by decide) (fun c18 => ?_) (fun c18 => ?_)
      · refine lv_iconst (v := (-1)) hx hb dX1_need_30 (by decide) ?_
        have hP9 := hP; have hD9 := hD
        subst hz1
        have hP8 : va_P (dC, dI) vwCl (mW cI cZ h a rpt rph rgr rca rne rap rle rfu rba rru rti rtk rsv rgi rpa ((X1_need rpt rca rne n i).2)) H := by rw [X1_need, if_neg c5, if_pos c18]; exact hP9
        have hD8 : va_D A (mW cI cZ h a rpt rph rgr rca rne rap rle rfu rba rru rti rtk rsv rgi rpa ((X1_need rpt rca rne n i).2)) := by rw [X1_need, if_neg c5, if_pos c18]; exact hD9
        exact hret H locs 31 ls (-1) hS hP8 hD8 (by rw [X1_need, if_neg c5, if_pos c18]) dX1_need_31
      · refine lv_aload_n hx hb dX1_need_21 rfl (lv_at hl 0 rfl) ?_
        refine va_get (D := (dC, dI)) (ci := 1) (v := .ref (a 4)) (C := RX1) (T := TX1) (N := 16) hx hb hts hin hown hK hP 0 rfl rfl 4 (by decide) hw1 (fun _ h9 => h9) rfl dX1_need_22 ?_
        refine lv_iload_n hx hb dX1_need_25 rfl (lv_at hl 1 rfl) ?_
        refine va_iald (f := rne) hx hb hK hP 4 0 rfl rfl (isPoint_in hpc hn c5) dX1_need_26 ?_
        refine lv_goto (tgt := 31) hx hb dX1_need_27 (by decide) ?_
        have hP9 := hP; have hD9 := hD
        subst hz1
        have hP8 : va_P (dC, dI) vwCl (mW cI cZ h a rpt rph rgr rca rne rap rle rfu rba rru rti rtk rsv rgi rpa ((X1_need rpt rca rne n i).2)) H := by rw [X1_need, if_neg c5, if_neg c18]; exact hP9
        have hD8 : va_D A (mW cI cZ h a rpt rph rgr rca rne rap rle rfu rba rru rti rtk rsv rgi rpa ((X1_need rpt rca rne n i).2)) := by rw [X1_need, if_neg c5, if_neg c18]; exact hD9
        exact hret H locs 31 ls (rne i.toNatClampNeg) hS hP8 hD8 (by rw [X1_need, if_neg c5, if_neg c18]) dX1_need_31
    · refine lv_iconst (v := 0) hx hb dX1_need_8 (by decide) ?_
      refine lv_goto (tgt := 31) hx hb dX1_need_9 (by decide) ?_
      have hP9 := hP; have hD9 := hD
      subst hz1
      have hP8 : va_P (dC, dI) vwCl (mW cI cZ h a rpt rph rgr rca rne rap rle rfu rba rru rti rtk rsv rgi rpa ((X1_need rpt rca rne n i).2)) H := by rw [X1_need, if_pos c5]; exact hP9
      have hD8 : va_D A (mW cI cZ h a rpt rph rgr rca rne rap rle rfu rba rru rti rtk rsv rgi rpa ((X1_need rpt rca rne n i).2)) := by rw [X1_need, if_pos c5]; exact hD9
      exact hret H locs 31 ls 0 hS hP8 hD8 (by rw [X1_need, if_pos c5]) dX1_need_31
  exact hW _ _ hP hD hS
def X1_left (rpt : Int32) (rca : AR) (rle : AR) (rti : Int32) (n : Nat) (i : Int32) : Int32 × Int32 := (if (X1_isPoint rpt i).1 = 0 then (0, ((X1_isPoint rpt i).2)) else (if (rca i.toNatClampNeg) = 0 then ((-1), ((X1_isPoint rpt i).2)) else ((X1_stepsLeft rle rti i), ((X1_isPoint rpt i).2))))
abbrev rmX1_left : Room := { frames := 2, cells := 0, slots := 0, locals := 43 }
theorem hd_X1_left : yX1_left.cls = RX1 ∧ yX1_left.cls ≠ "java/lang/invoke/MethodHandle" ∧ yX1_left.cls ≠ "java/lang/invoke/VarHandle" ∧ (parseMethodDescriptor yX1_left.desc).map (fun d => d.parameters.length) = some 1 := by decide +kernel
set_option maxHeartbeats 4000000 in
set_option maxRecDepth 100000 in
theorem c_X1_left (l : Launch) (dC : Nat → ClassId) (dI : Nat → Nat → Nat) (cI cZ : ClassId) (h : Nat) (a : Nat → Nat) (rpt : Int32) (rph : AR) (rgr : AR) (rca : AR) (rne : AR) (rap : AR) (rle : AR) (rfu : AR) (rba : Int32) (rru : Int32) (rti : Int32) (rtk : Int32) (rsv : Int32) (rgi : AR) (rpa : AR) (rth : Int32) (n : Nat) (i : Int32) (hpc : rpt = nI n) (hn : n ≤ 8) : Ki l yX1_left wsX1_left rmX1_left dC dI cI cZ [.ref h, .int i] (mW cI cZ h a rpt rph rgr rca rne rap rle rfu rba rru rti rtk rsv rgi rpa rth) (mW cI cZ h a rpt rph rgr rca rne rap rle rfu rba rru rti rtk rsv rgi rpa ((X1_left rpt rca rle rti n i).2)) (X1_left rpt rca rle rti n i).1 := by
  refine k_enter_i (cc := cX1_left) (maxL := 2) (ret := some .int) (by decide) rfl (Nat.le_of_ble_eq_true rfl) ?_
  intro p e s m below meth c A ls hC hr hlocks hK hP hD hS hA hl
  generalize List.toArray _ = args at hC ⊢
  obtain ⟨hx, hb, hml, hown, hts⟩ := id hC
  have hret : ∀ (H : Heap) (locs : List Loc) (pc : Nat) (ls : Array Slot) (r : Int32), va_S A s.heap H locs → va_P (dC, dI) vwCl (mW cI cZ h a rpt rph rgr rca rne rap rle rfu rba rru rti rtk rsv rgi rpa ((X1_left rpt rca rle rti n i).2)) H → va_D A (mW cI cZ h a rpt rph rgr rca rne rap rle rfu rba rru rti rtk rsv rgi rpa ((X1_left rpt rca rle rti n i).2)) → r = (X1_left rpt rca rle rti n i).1 → decode cX1_left pc = .ok (.ireturn, 1) → W p l e rmX1_left s m args below meth c H locs 0 0 (MQ below (va_Qi (fun r (_ : Unit) => r = (X1_left rpt rca rle rti n i).1) (kBeh dC dI A (mW cI cZ h a rpt rph rgr rca rne rap rle rfu rba rru rti rtk rsv rgi rpa ((X1_left rpt rca rle rti n i).2))) A) args s 0 0 A) (F0 m pc ls [.int r]) := fun H locs pc ls r hS hP hD hv d => k_iret hx hb hr hlocks hS hP hD hv d
  generalize MQ below _ _ _ _ _ _ = Q at hret ⊢
  have hin : ∀ w ∈ wsX10, w ∈ wsX1_left := by decide +kernel
  have hw0 := hts (.fieldLink RX1 16 "ChargeParkModel" "car" "[Z") (by decide +kernel)
  have hl : lv_has ls 2 [(0, .ref h), (1, .int i)] := hl
  have hP : va_P (dC, dI) vwCl (mW cI cZ h a rpt rph rgr rca rne rap rle rfu rba rru rti rtk rsv rgi rpa rth) s.heap := hP
  have hW : ∀ (H : Heap) (locs : List Loc), va_P (dC, dI) vwCl (mW cI cZ h a rpt rph rgr rca rne rap rle rfu rba rru rti rtk rsv rgi rpa rth) H → va_D A (mW cI cZ h a rpt rph rgr rca rne rap rle rfu rba rru rti rtk rsv rgi rpa rth) → va_S A s.heap H locs → W p l e rmX1_left s m args below meth c H locs 0 0 Q (F0 m 0 ls []) := by
    intro H locs hP hD hS
    refine lv_aload_n hx hb dX1_left_0 rfl (lv_at hl 0 rfl) ?_
    refine lv_iload_n hx hb dX1_left_1 rfl (lv_at hl 1 rfl) ?_
    refine k_calli (rest := []) (q0 := 0) hC (c_X1_isPoint l dC dI cI cZ h a rpt rph rgr rca rne rap rle rfu rba rru rti rtk rsv rgi rpa rth  i ) (cwV 1 hts gX1_left_X1_isPoint rfl rfl rfl hd_X1_isPoint ⟨Nat.le_of_ble_eq_true rfl, Nat.le_of_ble_eq_true rfl⟩) hK hP hD hS hA rfl rfl rfl hl.1 (Nat.le_of_ble_eq_true rfl) dX1_left_2 rfl ⟨Nat.zero_le _, Nat.zero_le _⟩ (fun H locs hP hD hS => ?_)
    obtain ⟨z1, hz1⟩ : ∃ z : Int32, z = ((X1_isPoint rpt i).2) := ⟨_, rfl⟩
    rw [← hz1] at hP hD
    have hP : va_P (dC, dI) vwCl (mW cI cZ h a rpt rph rgr rca rne rap rle rfu rba rru rti rtk rsv rgi rpa z1) H := hP
    have hD : va_D A (mW cI cZ h a rpt rph rgr rca rne rap rle rfu rba rru rti rtk rsv rgi rpa z1) := hD
    refine lv_if_ne (tgt := 12) hx hb dX1_left_5 (by decide) (fun c5 => ?_) (fun c5 => ?_)
    · refine lv_aload_n hx hb dX1_left_12 rfl (lv_at hl 0 rfl) ?_
      refine va_get (D := (dC, dI)) (ci := 1) (v := .ref (a 3)) (C := RX1) (T := TX1) (N := 16) hx hb hts hin hown hK hP 0 rfl rfl 3 (by decide) hw0 (fun _ h9 => h9) rfl dX1_left_13 ?_
      refine lv_iload_n hx hb dX1_left_16 rfl (lv_at hl 1 rfl) ?_
      refine va_zald (f := rca) hx hb hK hP 3 1 rfl rfl (isPoint_in hpc hn c5) dX1_left_17 ?_
      refine lv_if_eq (tgt := 29) hx hb dX1_left_18 (by decide) (fun c18 => ?_) (fun c18 => ?_)
      · refine lv_iconst (v := (-1)) hx hb dX1_left_29 (by decide) ?_
        have hP9 := hP; have hD9 := hD
        subst hz1
        have hP8 : va_P (dC, dI) vwCl (mW cI cZ h a rpt rph rgr rca rne rap rle rfu rba rru rti rtk rsv rgi rpa ((X1_left rpt rca rle rti n i).2)) H := by rw [X1_left, if_neg c5, if_pos c18]; exact hP9
        have hD8 : va_D A (mW cI cZ h a rpt rph rgr rca rne rap rle rfu rba rru rti rtk rsv rgi rpa ((X1_left rpt rca rle rti n i).2)) := by rw [X1_left, if_neg c5, if_pos c18]; exact hD9
        exact hret H locs 30 ls (-1) hS hP8 hD8 (by rw [X1_left, if_neg c5, if_pos c18]) dX1_left_30
      · refine lv_aload_n hx hb dX1_left_21 rfl (lv_at hl 0 rfl) ?_
        refine lv_iload_n hx hb dX1_left_22 rfl (lv_at hl 1 rfl) ?_
        refine k_calli (rest := []) (q0 := 0) hC (c_X1_stepsLeft l dC dI cI cZ h a rpt rph rgr rca rne rap rle rfu rba rru rti rtk rsv rgi rpa z1  i (isPoint_in hpc hn c5)) (cwV 1 hts gX1_left_X1_stepsLeft rfl rfl rfl hd_X1_stepsLeft ⟨Nat.le_of_ble_eq_true rfl, Nat.le_of_ble_eq_true rfl⟩) hK hP hD hS hA rfl rfl rfl hl.1 (Nat.le_of_ble_eq_true rfl) dX1_left_23 rfl ⟨Nat.zero_le _, Nat.zero_le _⟩ (fun H locs hP hD hS => ?_)
        refine lv_goto (tgt := 30) hx hb dX1_left_26 (by decide) ?_
        have hP9 := hP; have hD9 := hD
        subst hz1
        have hP8 : va_P (dC, dI) vwCl (mW cI cZ h a rpt rph rgr rca rne rap rle rfu rba rru rti rtk rsv rgi rpa ((X1_left rpt rca rle rti n i).2)) H := by rw [X1_left, if_neg c5, if_neg c18]; exact hP9
        have hD8 : va_D A (mW cI cZ h a rpt rph rgr rca rne rap rle rfu rba rru rti rtk rsv rgi rpa ((X1_left rpt rca rle rti n i).2)) := by rw [X1_left, if_neg c5, if_neg c18]; exact hD9
        exact hret H locs 30 ls (X1_stepsLeft rle rti i) hS hP8 hD8 (by rw [X1_left, if_neg c5, if_neg c18]) dX1_left_30
    · refine lv_iconst (v := 0) hx hb dX1_left_8 (by decide) ?_
      refine lv_goto (tgt := 30) hx hb dX1_left_9 (by decide) ?_
      have hP9 := hP; have hD9 := hD
      subst hz1
      have hP8 : va_P (dC, dI) vwCl (mW cI cZ h a rpt rph rgr rca rne rap rle rfu rba rru rti rtk rsv rgi rpa ((X1_left rpt rca rle rti n i).2)) H := by rw [X1_left, if_pos c5]; exact hP9
      have hD8 : va_D A (mW cI cZ h a rpt rph rgr rca rne rap rle rfu rba rru rti rtk rsv rgi rpa ((X1_left rpt rca rle rti n i).2)) := by rw [X1_left, if_pos c5]; exact hD9
      exact hret H locs 30 ls 0 hS hP8 hD8 (by rw [X1_left, if_pos c5]) dX1_left_30
  exact hW _ _ hP hD hS
def X1_laxity (rpt : Int32) (rph : AR) (rgr : AR) (rca : AR) (rne : AR) (rap : AR) (rle : AR) (rti : Int32) (n : Nat) (i : Int32) : Int32 × Int32 := (if (X1_isPoint rpt i).1 = 0 then (0, ((X1_isPoint rpt i).2)) else (if (rca i.toNatClampNeg) = 0 then (0, 2) else ((X1_lax rph rgr rne rap rle rti i), 0)))
abbrev rmX1_laxity : Room := { frames := 2, cells := 0, slots := 0, locals := 43 }
theorem hd_X1_laxity : yX1_laxity.cls = RX1 ∧ yX1_laxity.cls ≠ "java/lang/invoke/MethodHandle" ∧ yX1_laxity.cls ≠ "java/lang/invoke/VarHandle" ∧ (parseMethodDescriptor yX1_laxity.desc).map (fun d => d.parameters.length) = some 1 := by decide +kernel
set_option maxHeartbeats 4000000 in
set_option maxRecDepth 100000 in
theorem c_X1_laxity (l : Launch) (dC : Nat → ClassId) (dI : Nat → Nat → Nat) (cI cZ : ClassId) (h : Nat) (a : Nat → Nat) (rpt : Int32) (rph : AR) (rgr : AR) (rca : AR) (rne : AR) (rap : AR) (rle : AR) (rfu : AR) (rba : Int32) (rru : Int32) (rti : Int32) (rtk : Int32) (rsv : Int32) (rgi : AR) (rpa : AR) (rth : Int32) (n : Nat) (i : Int32) (hpc : rpt = nI n) (hn : n ≤ 8) (hI : mI rgr rca rap n) : Ki l yX1_laxity wsX1_laxity rmX1_laxity dC dI cI cZ [.ref h, .int i] (mW cI cZ h a rpt rph rgr rca rne rap rle rfu rba rru rti rtk rsv rgi rpa rth) (mW cI cZ h a rpt rph rgr rca rne rap rle rfu rba rru rti rtk rsv rgi rpa ((X1_laxity rpt rph rgr rca rne rap rle rti n i).2)) (X1_laxity rpt rph rgr rca rne rap rle rti n i).1 := by
  refine k_enter_i (cc := cX1_laxity) (maxL := 2) (ret := some .int) (by decide) rfl (Nat.le_of_ble_eq_true rfl) ?_
  intro p e s m below meth c A ls hC hr hlocks hK hP hD hS hA hl
  generalize List.toArray _ = args at hC ⊢
  obtain ⟨hx, hb, hml, hown, hts⟩ := id hC
  have hret : ∀ (H : Heap) (locs : List Loc) (pc : Nat) (ls : Array Slot) (r : Int32), va_S A s.heap H locs → va_P (dC, dI) vwCl (mW cI cZ h a rpt rph rgr rca rne rap rle rfu rba rru rti rtk rsv rgi rpa ((X1_laxity rpt rph rgr rca rne rap rle rti n i).2)) H → va_D A (mW cI cZ h a rpt rph rgr rca rne rap rle rfu rba rru rti rtk rsv rgi rpa ((X1_laxity rpt rph rgr rca rne rap rle rti n i).2)) → r = (X1_laxity rpt rph rgr rca rne rap rle rti n i).1 → decode cX1_laxity pc = .ok (.ireturn, 1) → W p l e rmX1_laxity s m args below meth c H locs 0 0 (MQ below (va_Qi (fun r (_ : Unit) => r = (X1_laxity rpt rph rgr rca rne rap rle rti n i).1) (kBeh dC dI A (mW cI cZ h a rpt rph rgr rca rne rap rle rfu rba rru rti rtk rsv rgi rpa ((X1_laxity rpt rph rgr rca rne rap rle rti n i).2))) A) args s 0 0 A) (F0 m pc ls [.int r]) := fun H locs pc ls r hS hP hD hv d => k_iret hx hb hr hlocks hS hP hD hv d
  generalize MQ below _ _ _ _ _ _ = Q at hret ⊢
  have hin : ∀ w ∈ wsX10, w ∈ wsX1_laxity := by decide +kernel
  have hw0 := hts (.fieldLink RX1 16 "ChargeParkModel" "car" "[Z") (by decide +kernel)
  have hw1 := hts (.fieldLink RX1 42 "ChargeParkModel" "thrown" "I") (by decide +kernel)
  have hl : lv_has ls 2 [(0, .ref h), (1, .int i)] := hl
  have hP : va_P (dC, dI) vwCl (mW cI cZ h a rpt rph rgr rca rne rap rle rfu rba rru rti rtk rsv rgi rpa rth) s.heap := hP
  have hW : ∀ (H : Heap) (locs : List Loc), va_P (dC, dI) vwCl (mW cI cZ h a rpt rph rgr rca rne rap rle rfu rba rru rti rtk rsv rgi rpa rth) H → va_D A (mW cI cZ h a rpt rph rgr rca rne rap rle rfu rba rru rti rtk rsv rgi rpa rth) → va_S A s.heap H locs → W p l e rmX1_laxity s m args below meth c H locs 0 0 Q (F0 m 0 ls []) := by
    intro H locs hP hD hS
    refine lv_aload_n hx hb dX1_laxity_0 rfl (lv_at hl 0 rfl) ?_
    refine lv_iload_n hx hb dX1_laxity_1 rfl (lv_at hl 1 rfl) ?_
    refine k_calli (rest := []) (q0 := 0) hC (c_X1_isPoint l dC dI cI cZ h a rpt rph rgr rca rne rap rle rfu rba rru rti rtk rsv rgi rpa rth  i ) (cwV 1 hts gX1_laxity_X1_isPoint rfl rfl rfl hd_X1_isPoint ⟨Nat.le_of_ble_eq_true rfl, Nat.le_of_ble_eq_true rfl⟩) hK hP hD hS hA rfl rfl rfl hl.1 (Nat.le_of_ble_eq_true rfl) dX1_laxity_2 rfl ⟨Nat.zero_le _, Nat.zero_le _⟩ (fun H locs hP hD hS => ?_)
    obtain ⟨z1, hz1⟩ : ∃ z : Int32, z = ((X1_isPoint rpt i).2) := ⟨_, rfl⟩
    rw [← hz1] at hP hD
    have hP : va_P (dC, dI) vwCl (mW cI cZ h a rpt rph rgr rca rne rap rle rfu rba rru rti rtk rsv rgi rpa z1) H := hP
    have hD : va_D A (mW cI cZ h a rpt rph rgr rca rne rap rle rfu rba rru rti rtk rsv rgi rpa z1) := hD
    refine lv_if_ne (tgt := 10) hx hb dX1_laxity_5 (by decide) (fun c5 => ?_) (fun c5 => ?_)
    · refine lv_aload_n hx hb dX1_laxity_10 rfl (lv_at hl 0 rfl) ?_
      refine lv_aload_n hx hb dX1_laxity_11 rfl (lv_at hl 0 rfl) ?_
      refine va_get (D := (dC, dI)) (ci := 1) (v := .ref (a 3)) (C := RX1) (T := TX1) (N := 16) hx hb hts hin hown hK hP 0 rfl rfl 3 (by decide) hw0 (fun _ h9 => h9) rfl dX1_laxity_12 ?_
      refine lv_iload_n hx hb dX1_laxity_15 rfl (lv_at hl 1 rfl) ?_
      refine va_zald (f := rca) hx hb hK hP 3 1 rfl rfl (isPoint_in hpc hn c5) dX1_laxity_16 ?_
      refine lv_if_eq (tgt := 24) hx hb dX1_laxity_17 (by decide) (fun c17 => ?_) (fun c17 => ?_)
      · refine lv_iconst (v := 2) hx hb dX1_laxity_24 (by decide) ?_
        refine va_put (D := (dC, dI)) (ci := 1) (v := .int 2) (ty := .int) (C := RX1) (T := TX1) (N := 16) hx hb hts hin tyX1 tyX1_ok nmX1 hown hK hP hD hS 0 rfl rfl 15 (by decide) hw1 (fun _ h9 => h9) rfl mfd15 rfl rfl (Nat.le_of_ble_eq_true rfl) dX1_laxity_25 (fun H locs hP hD hS => ?_)
        have hP : va_P (dC, dI) vwCl (mW cI cZ h a rpt rph rgr rca rne rap rle rfu rba rru rti rtk rsv rgi rpa 2) H := hP
        have hD : va_D A (mW cI cZ h a rpt rph rgr rca rne rap rle rfu rba rru rti rtk rsv rgi rpa 2) := hD
        refine lv_aload_n hx hb dX1_laxity_28 rfl (lv_at hl 0 rfl) ?_
        refine va_get (D := (dC, dI)) (ci := 1) (v := .int 2) (C := RX1) (T := TX1) (N := 16) hx hb hts hin hown hK hP 0 rfl rfl 15 (by decide) hw1 (fun _ h9 => h9) rfl dX1_laxity_29 ?_
        refine lv_if_le (tgt := 39) hx hb dX1_laxity_32 (by decide) (fun c => absurd c (by decide)) (fun _ => ?_)
        refine lv_iconst (v := 0) hx hb dX1_laxity_35 (by decide) ?_
        refine lv_goto (tgt := 44) hx hb dX1_laxity_36 (by decide) ?_
        have hP9 := hP; have hD9 := hD
        subst hz1
        have hP8 : va_P (dC, dI) vwCl (mW cI cZ h a rpt rph rgr rca rne rap rle rfu rba rru rti rtk rsv rgi rpa ((X1_laxity rpt rph rgr rca rne rap rle rti n i).2)) H := by rw [X1_laxity, if_neg c5, if_pos c17]; exact hP9
        have hD8 : va_D A (mW cI cZ h a rpt rph rgr rca rne rap rle rfu rba rru rti rtk rsv rgi rpa ((X1_laxity rpt rph rgr rca rne rap rle rti n i).2)) := by rw [X1_laxity, if_neg c5, if_pos c17]; exact hD9
        exact hret H locs 44 ls 0 hS hP8 hD8 (by rw [X1_laxity, if_neg c5, if_pos c17]) dX1_laxity_44
      · refine lv_iconst (v := 0) hx hb dX1_laxity_20 (by decide) ?_
        refine lv_goto (tgt := 25) hx hb dX1_laxity_21 (by decide) ?_
        refine va_put (D := (dC, dI)) (ci := 1) (v := .int 0) (ty := .int) (C := RX1) (T := TX1) (N := 16) hx hb hts hin tyX1 tyX1_ok nmX1 hown hK hP hD hS 0 rfl rfl 15 (by decide) hw1 (fun _ h9 => h9) rfl mfd15 rfl rfl (Nat.le_of_ble_eq_true rfl) dX1_laxity_25 (fun H locs hP hD hS => ?_)
        have hP : va_P (dC, dI) vwCl (mW cI cZ h a rpt rph rgr rca rne rap rle rfu rba rru rti rtk rsv rgi rpa 0) H := hP
        have hD : va_D A (mW cI cZ h a rpt rph rgr rca rne rap rle rfu rba rru rti rtk rsv rgi rpa 0) := hD
        refine lv_aload_n hx hb dX1_laxity_28 rfl (lv_at hl 0 rfl) ?_
        refine va_get (D := (dC, dI)) (ci := 1) (v := .int 0) (C := RX1) (T := TX1) (N := 16) hx hb hts hin hown hK hP 0 rfl rfl 15 (by decide) hw1 (fun _ h9 => h9) rfl dX1_laxity_29 ?_
        refine lv_if_le (tgt := 39) hx hb dX1_laxity_32 (by decide) (fun _ => ?_) (fun c => absurd (by decide) c)
        refine lv_aload_n hx hb dX1_laxity_39 rfl (lv_at hl 0 rfl) ?_
        refine lv_iload_n hx hb dX1_laxity_40 rfl (lv_at hl 1 rfl) ?_
        refine k_calli (rest := []) (q0 := 0) hC (c_X1_lax l dC dI cI cZ h a rpt rph rgr rca rne rap rle rfu rba rru rti rtk rsv rgi rpa 0  i (isPoint_in hpc hn c5) (mI_nz_i hpc hn hI c5 c17)) (cwV 1 hts gX1_laxity_X1_lax rfl rfl rfl hd_X1_lax ⟨Nat.le_of_ble_eq_true rfl, Nat.le_of_ble_eq_true rfl⟩) hK hP hD hS hA rfl rfl rfl hl.1 (Nat.le_of_ble_eq_true rfl) dX1_laxity_41 rfl ⟨Nat.zero_le _, Nat.zero_le _⟩ (fun H locs hP hD hS => ?_)
        have hP9 := hP; have hD9 := hD
        subst hz1
        have hP8 : va_P (dC, dI) vwCl (mW cI cZ h a rpt rph rgr rca rne rap rle rfu rba rru rti rtk rsv rgi rpa ((X1_laxity rpt rph rgr rca rne rap rle rti n i).2)) H := by rw [X1_laxity, if_neg c5, if_neg c17]; exact hP9
        have hD8 : va_D A (mW cI cZ h a rpt rph rgr rca rne rap rle rfu rba rru rti rtk rsv rgi rpa ((X1_laxity rpt rph rgr rca rne rap rle rti n i).2)) := by rw [X1_laxity, if_neg c5, if_neg c17]; exact hD9
        exact hret H locs 44 ls (X1_lax rph rgr rne rap rle rti i) hS hP8 hD8 (by rw [X1_laxity, if_neg c5, if_neg c17]) dX1_laxity_44
    · refine lv_iconst (v := 0) hx hb dX1_laxity_8 (by decide) ?_
      have hP9 := hP; have hD9 := hD
      subst hz1
      have hP8 : va_P (dC, dI) vwCl (mW cI cZ h a rpt rph rgr rca rne rap rle rfu rba rru rti rtk rsv rgi rpa ((X1_laxity rpt rph rgr rca rne rap rle rti n i).2)) H := by rw [X1_laxity, if_pos c5]; exact hP9
      have hD8 : va_D A (mW cI cZ h a rpt rph rgr rca rne rap rle rfu rba rru rti rtk rsv rgi rpa ((X1_laxity rpt rph rgr rca rne rap rle rti n i).2)) := by rw [X1_laxity, if_pos c5]; exact hD9
      exact hret H locs 9 ls 0 hS hP8 hD8 (by rw [X1_laxity, if_pos c5]) dX1_laxity_9
  exact hW _ _ hP hD hS
def X1_reach (rpt : Int32) (rph : AR) (rgr : AR) (rca : AR) (rne : AR) (rap : AR) (rle : AR) (rti : Int32) (n : Nat) (i : Int32) : Int32 × Int32 := (if (X1_isPoint rpt i).1 = 0 then (0, ((X1_isPoint rpt i).2)) else ((X1_reaches rph rgr rca rne rap rle rti i), ((X1_isPoint rpt i).2)))
abbrev rmX1_reach : Room := { frames := 2, cells := 0, slots := 0, locals := 44 }
theorem hd_X1_reach : yX1_reach.cls = RX1 ∧ yX1_reach.cls ≠ "java/lang/invoke/MethodHandle" ∧ yX1_reach.cls ≠ "java/lang/invoke/VarHandle" ∧ (parseMethodDescriptor yX1_reach.desc).map (fun d => d.parameters.length) = some 1 := by decide +kernel
set_option maxHeartbeats 4000000 in
set_option maxRecDepth 100000 in
theorem c_X1_reach (l : Launch) (dC : Nat → ClassId) (dI : Nat → Nat → Nat) (cI cZ : ClassId) (h : Nat) (a : Nat → Nat) (rpt : Int32) (rph : AR) (rgr : AR) (rca : AR) (rne : AR) (rap : AR) (rle : AR) (rfu : AR) (rba : Int32) (rru : Int32) (rti : Int32) (rtk : Int32) (rsv : Int32) (rgi : AR) (rpa : AR) (rth : Int32) (n : Nat) (i : Int32) (hpc : rpt = nI n) (hn : n ≤ 8) : Ki l yX1_reach wsX1_reach rmX1_reach dC dI cI cZ [.ref h, .int i] (mW cI cZ h a rpt rph rgr rca rne rap rle rfu rba rru rti rtk rsv rgi rpa rth) (mW cI cZ h a rpt rph rgr rca rne rap rle rfu rba rru rti rtk rsv rgi rpa ((X1_reach rpt rph rgr rca rne rap rle rti n i).2)) (X1_reach rpt rph rgr rca rne rap rle rti n i).1 := by
  refine k_enter_i (cc := cX1_reach) (maxL := 2) (ret := some .int) (by decide) rfl (Nat.le_of_ble_eq_true rfl) ?_
  intro p e s m below meth c A ls hC hr hlocks hK hP hD hS hA hl
  generalize List.toArray _ = args at hC ⊢
  obtain ⟨hx, hb, hml, hown, hts⟩ := id hC
  have hret : ∀ (H : Heap) (locs : List Loc) (pc : Nat) (ls : Array Slot) (r : Int32), va_S A s.heap H locs → va_P (dC, dI) vwCl (mW cI cZ h a rpt rph rgr rca rne rap rle rfu rba rru rti rtk rsv rgi rpa ((X1_reach rpt rph rgr rca rne rap rle rti n i).2)) H → va_D A (mW cI cZ h a rpt rph rgr rca rne rap rle rfu rba rru rti rtk rsv rgi rpa ((X1_reach rpt rph rgr rca rne rap rle rti n i).2)) → r = (X1_reach rpt rph rgr rca rne rap rle rti n i).1 → decode cX1_reach pc = .ok (.ireturn, 1) → W p l e rmX1_reach s m args below meth c H locs 0 0 (MQ below (va_Qi (fun r (_ : Unit) => r = (X1_reach rpt rph rgr rca rne rap rle rti n i).1) (kBeh dC dI A (mW cI cZ h a rpt rph rgr rca rne rap rle rfu rba rru rti rtk rsv rgi rpa ((X1_reach rpt rph rgr rca rne rap rle rti n i).2))) A) args s 0 0 A) (F0 m pc ls [.int r]) := fun H locs pc ls r hS hP hD hv d => k_iret hx hb hr hlocks hS hP hD hv d
  generalize MQ below _ _ _ _ _ _ = Q at hret ⊢
  have hl : lv_has ls 2 [(0, .ref h), (1, .int i)] := hl
  have hP : va_P (dC, dI) vwCl (mW cI cZ h a rpt rph rgr rca rne rap rle rfu rba rru rti rtk rsv rgi rpa rth) s.heap := hP
  have hW : ∀ (H : Heap) (locs : List Loc), va_P (dC, dI) vwCl (mW cI cZ h a rpt rph rgr rca rne rap rle rfu rba rru rti rtk rsv rgi rpa rth) H → va_D A (mW cI cZ h a rpt rph rgr rca rne rap rle rfu rba rru rti rtk rsv rgi rpa rth) → va_S A s.heap H locs → W p l e rmX1_reach s m args below meth c H locs 0 0 Q (F0 m 0 ls []) := by
    intro H locs hP hD hS
    refine lv_aload_n hx hb dX1_reach_0 rfl (lv_at hl 0 rfl) ?_
    refine lv_iload_n hx hb dX1_reach_1 rfl (lv_at hl 1 rfl) ?_
    refine k_calli (rest := []) (q0 := 0) hC (c_X1_isPoint l dC dI cI cZ h a rpt rph rgr rca rne rap rle rfu rba rru rti rtk rsv rgi rpa rth  i ) (cwV 1 hts gX1_reach_X1_isPoint rfl rfl rfl hd_X1_isPoint ⟨Nat.le_of_ble_eq_true rfl, Nat.le_of_ble_eq_true rfl⟩) hK hP hD hS hA rfl rfl rfl hl.1 (Nat.le_of_ble_eq_true rfl) dX1_reach_2 rfl ⟨Nat.zero_le _, Nat.zero_le _⟩ (fun H locs hP hD hS => ?_)
    obtain ⟨z1, hz1⟩ : ∃ z : Int32, z = ((X1_isPoint rpt i).2) := ⟨_, rfl⟩
    rw [← hz1] at hP hD
    have hP : va_P (dC, dI) vwCl (mW cI cZ h a rpt rph rgr rca rne rap rle rfu rba rru rti rtk rsv rgi rpa z1) H := hP
    have hD : va_D A (mW cI cZ h a rpt rph rgr rca rne rap rle rfu rba rru rti rtk rsv rgi rpa z1) := hD
    refine lv_if_eq (tgt := 16) hx hb dX1_reach_5 (by decide) (fun c5 => ?_) (fun c5 => ?_)
    · refine lv_iconst (v := 0) hx hb dX1_reach_16 (by decide) ?_
      have hP9 := hP; have hD9 := hD
      subst hz1
      have hP8 : va_P (dC, dI) vwCl (mW cI cZ h a rpt rph rgr rca rne rap rle rfu rba rru rti rtk rsv rgi rpa ((X1_reach rpt rph rgr rca rne rap rle rti n i).2)) H := by rw [X1_reach, if_pos c5]; exact hP9
      have hD8 : va_D A (mW cI cZ h a rpt rph rgr rca rne rap rle rfu rba rru rti rtk rsv rgi rpa ((X1_reach rpt rph rgr rca rne rap rle rti n i).2)) := by rw [X1_reach, if_pos c5]; exact hD9
      exact hret H locs 17 ls 0 hS hP8 hD8 (by rw [X1_reach, if_pos c5]) dX1_reach_17
    · refine lv_aload_n hx hb dX1_reach_8 rfl (lv_at hl 0 rfl) ?_
      refine lv_iload_n hx hb dX1_reach_9 rfl (lv_at hl 1 rfl) ?_
      refine k_calli (rest := []) (q0 := 0) hC (c_X1_reaches l dC dI cI cZ h a rpt rph rgr rca rne rap rle rfu rba rru rti rtk rsv rgi rpa z1  i (isPoint_in hpc hn c5)) (cwV 1 hts gX1_reach_X1_reaches rfl rfl rfl hd_X1_reaches ⟨Nat.le_of_ble_eq_true rfl, Nat.le_of_ble_eq_true rfl⟩) hK hP hD hS hA rfl rfl rfl hl.1 (Nat.le_of_ble_eq_true rfl) dX1_reach_10 rfl ⟨Nat.zero_le _, Nat.zero_le _⟩ (fun H locs hP hD hS => ?_)
      refine lv_goto (tgt := 17) hx hb dX1_reach_13 (by decide) ?_
      have hP9 := hP; have hD9 := hD
      subst hz1
      have hP8 : va_P (dC, dI) vwCl (mW cI cZ h a rpt rph rgr rca rne rap rle rfu rba rru rti rtk rsv rgi rpa ((X1_reach rpt rph rgr rca rne rap rle rti n i).2)) H := by rw [X1_reach, if_neg c5]; exact hP9
      have hD8 : va_D A (mW cI cZ h a rpt rph rgr rca rne rap rle rfu rba rru rti rtk rsv rgi rpa ((X1_reach rpt rph rgr rca rne rap rle rti n i).2)) := by rw [X1_reach, if_neg c5]; exact hD9
      exact hret H locs 17 ls (X1_reaches rph rgr rca rne rap rle rti i) hS hP8 hD8 (by rw [X1_reach, if_neg c5]) dX1_reach_17
  exact hW _ _ hP hD hS
def X1_current (rpt : Int32) (rph : AR) (rgr : AR) (rca : AR) (rne : AR) (rap : AR) (rle : AR) (rfu : AR) (rba : Int32) (rru : Int32) (rti : Int32) (rgi : AR) (rpa : AR) (n : Nat) (i : Int32) : Int32 × AR × AR × Int32 := (if (X1_isPoint rpt i).1 = 0 then (0, rgi, rpa, ((X1_isPoint rpt i).2)) else ((((X1_shares rph rgr rca rne rap rle rfu rba rru rti rgi rpa n).1) i.toNatClampNeg), ((X1_shares rph rgr rca rne rap rle rfu rba rru rti rgi rpa n).1), ((X1_shares rph rgr rca rne rap rle rfu rba rru rti rgi rpa n).2), ((X1_isPoint rpt i).2)))
abbrev rmX1_current : Room := { frames := 5, cells := 0, slots := 0, locals := 110 }
theorem hd_X1_current : yX1_current.cls = RX1 ∧ yX1_current.cls ≠ "java/lang/invoke/MethodHandle" ∧ yX1_current.cls ≠ "java/lang/invoke/VarHandle" ∧ (parseMethodDescriptor yX1_current.desc).map (fun d => d.parameters.length) = some 1 := by decide +kernel
set_option maxHeartbeats 4000000 in
set_option maxRecDepth 100000 in
theorem c_X1_current (l : Launch) (dC : Nat → ClassId) (dI : Nat → Nat → Nat) (cI cZ : ClassId) (h : Nat) (a : Nat → Nat) (rpt : Int32) (rph : AR) (rgr : AR) (rca : AR) (rne : AR) (rap : AR) (rle : AR) (rfu : AR) (rba : Int32) (rru : Int32) (rti : Int32) (rtk : Int32) (rsv : Int32) (rgi : AR) (rpa : AR) (rth : Int32) (n : Nat) (i : Int32) (hpc : rpt = nI n) (hn : n ≤ 8) (hI : mI rgr rca rap n) : Ki l yX1_current wsX1_current rmX1_current dC dI cI cZ [.ref h, .int i] (mW cI cZ h a rpt rph rgr rca rne rap rle rfu rba rru rti rtk rsv rgi rpa rth) (mW cI cZ h a rpt rph rgr rca rne rap rle rfu rba rru rti rtk rsv ((X1_current rpt rph rgr rca rne rap rle rfu rba rru rti rgi rpa n i).2.1) ((X1_current rpt rph rgr rca rne rap rle rfu rba rru rti rgi rpa n i).2.2.1) ((X1_current rpt rph rgr rca rne rap rle rfu rba rru rti rgi rpa n i).2.2.2)) (X1_current rpt rph rgr rca rne rap rle rfu rba rru rti rgi rpa n i).1 := by
  refine k_enter_i (cc := cX1_current) (maxL := 2) (ret := some .int) (by decide) rfl (Nat.le_of_ble_eq_true rfl) ?_
  intro p e s m below meth c A ls hC hr hlocks hK hP hD hS hA hl
  generalize List.toArray _ = args at hC ⊢
  obtain ⟨hx, hb, hml, hown, hts⟩ := id hC
  have hret : ∀ (H : Heap) (locs : List Loc) (pc : Nat) (ls : Array Slot) (r : Int32), va_S A s.heap H locs → va_P (dC, dI) vwCl (mW cI cZ h a rpt rph rgr rca rne rap rle rfu rba rru rti rtk rsv ((X1_current rpt rph rgr rca rne rap rle rfu rba rru rti rgi rpa n i).2.1) ((X1_current rpt rph rgr rca rne rap rle rfu rba rru rti rgi rpa n i).2.2.1) ((X1_current rpt rph rgr rca rne rap rle rfu rba rru rti rgi rpa n i).2.2.2)) H → va_D A (mW cI cZ h a rpt rph rgr rca rne rap rle rfu rba rru rti rtk rsv ((X1_current rpt rph rgr rca rne rap rle rfu rba rru rti rgi rpa n i).2.1) ((X1_current rpt rph rgr rca rne rap rle rfu rba rru rti rgi rpa n i).2.2.1) ((X1_current rpt rph rgr rca rne rap rle rfu rba rru rti rgi rpa n i).2.2.2)) → r = (X1_current rpt rph rgr rca rne rap rle rfu rba rru rti rgi rpa n i).1 → decode cX1_current pc = .ok (.ireturn, 1) → W p l e rmX1_current s m args below meth c H locs 0 0 (MQ below (va_Qi (fun r (_ : Unit) => r = (X1_current rpt rph rgr rca rne rap rle rfu rba rru rti rgi rpa n i).1) (kBeh dC dI A (mW cI cZ h a rpt rph rgr rca rne rap rle rfu rba rru rti rtk rsv ((X1_current rpt rph rgr rca rne rap rle rfu rba rru rti rgi rpa n i).2.1) ((X1_current rpt rph rgr rca rne rap rle rfu rba rru rti rgi rpa n i).2.2.1) ((X1_current rpt rph rgr rca rne rap rle rfu rba rru rti rgi rpa n i).2.2.2))) A) args s 0 0 A) (F0 m pc ls [.int r]) := fun H locs pc ls r hS hP hD hv d => k_iret hx hb hr hlocks hS hP hD hv d
  generalize MQ below _ _ _ _ _ _ = Q at hret ⊢
  have hin : ∀ w ∈ wsX10, w ∈ wsX1_current := by decide +kernel
  have hw0 := hts (.fieldLink RX1 36 "ChargeParkModel" "given" "[I") (by decide +kernel)
  have hl : lv_has ls 2 [(0, .ref h), (1, .int i)] := hl
  have hP : va_P (dC, dI) vwCl (mW cI cZ h a rpt rph rgr rca rne rap rle rfu rba rru rti rtk rsv rgi rpa rth) s.heap := hP
  have hW : ∀ (H : Heap) (locs : List Loc), va_P (dC, dI) vwCl (mW cI cZ h a rpt rph rgr rca rne rap rle rfu rba rru rti rtk rsv rgi rpa rth) H → va_D A (mW cI cZ h a rpt rph rgr rca rne rap rle rfu rba rru rti rtk rsv rgi rpa rth) → va_S A s.heap H locs → W p l e rmX1_current s m args below meth c H locs 0 0 Q (F0 m 0 ls []) := by
    intro H locs hP hD hS
    refine lv_aload_n hx hb dX1_current_0 rfl (lv_at hl 0 rfl) ?_
    refine lv_iload_n hx hb dX1_current_1 rfl (lv_at hl 1 rfl) ?_
    refine k_calli (rest := []) (q0 := 0) hC (c_X1_isPoint l dC dI cI cZ h a rpt rph rgr rca rne rap rle rfu rba rru rti rtk rsv rgi rpa rth  i ) (cwV 1 hts gX1_current_X1_isPoint rfl rfl rfl hd_X1_isPoint ⟨Nat.le_of_ble_eq_true rfl, Nat.le_of_ble_eq_true rfl⟩) hK hP hD hS hA rfl rfl rfl hl.1 (Nat.le_of_ble_eq_true rfl) dX1_current_2 rfl ⟨Nat.zero_le _, Nat.zero_le _⟩ (fun H locs hP hD hS => ?_)
    obtain ⟨z1, hz1⟩ : ∃ z : Int32, z = ((X1_isPoint rpt i).2) := ⟨_, rfl⟩
    rw [← hz1] at hP hD
    have hP : va_P (dC, dI) vwCl (mW cI cZ h a rpt rph rgr rca rne rap rle rfu rba rru rti rtk rsv rgi rpa z1) H := hP
    have hD : va_D A (mW cI cZ h a rpt rph rgr rca rne rap rle rfu rba rru rti rtk rsv rgi rpa z1) := hD
    refine lv_if_ne (tgt := 10) hx hb dX1_current_5 (by decide) (fun c5 => ?_) (fun c5 => ?_)
    · refine lv_aload_n hx hb dX1_current_10 rfl (lv_at hl 0 rfl) ?_
      refine k_callv (rest := []) (q0 := 0) hC (c_X1_shares l dC dI cI cZ h a rpt rph rgr rca rne rap rle rfu rba rru rti rtk rsv rgi rpa z1 n  hpc hn hI (X1_shares_T1 hn hI) (X1_shares_T2 hn hI) (X1_shares_T3 hn hI)) (cwV 0 hts gX1_current_X1_shares rfl rfl rfl hd_X1_shares ⟨Nat.le_of_ble_eq_true rfl, Nat.le_of_ble_eq_true rfl⟩) hK hP hD hS hA rfl rfl rfl hl.1 (Nat.le_of_ble_eq_true rfl) dX1_current_11 rfl ⟨Nat.zero_le _, Nat.zero_le _⟩ (fun H locs hP hD hS => ?_)
      obtain ⟨z2, hz2⟩ : ∃ z : AR, z = ((X1_shares rph rgr rca rne rap rle rfu rba rru rti rgi rpa n).1) := ⟨_, rfl⟩
      rw [← hz2] at hP hD
      obtain ⟨z3, hz3⟩ : ∃ z : AR, z = ((X1_shares rph rgr rca rne rap rle rfu rba rru rti rgi rpa n).2) := ⟨_, rfl⟩
      rw [← hz3] at hP hD
      have hP : va_P (dC, dI) vwCl (mW cI cZ h a rpt rph rgr rca rne rap rle rfu rba rru rti rtk rsv z2 z3 z1) H := hP
      have hD : va_D A (mW cI cZ h a rpt rph rgr rca rne rap rle rfu rba rru rti rtk rsv z2 z3 z1) := hD
      refine lv_aload_n hx hb dX1_current_14 rfl (lv_at hl 0 rfl) ?_
      refine va_get (D := (dC, dI)) (ci := 1) (v := .ref (a 13)) (C := RX1) (T := TX1) (N := 16) hx hb hts hin hown hK hP 0 rfl rfl 13 (by decide) hw0 (fun _ h9 => h9) rfl dX1_current_15 ?_
      refine lv_iload_n hx hb dX1_current_18 rfl (lv_at hl 1 rfl) ?_
      refine va_iald (f := z2) hx hb hK hP 8 0 rfl rfl (isPoint_in hpc hn c5) dX1_current_19 ?_
      have hP9 := hP; have hD9 := hD
      subst hz1 hz2 hz3
      have hP8 : va_P (dC, dI) vwCl (mW cI cZ h a rpt rph rgr rca rne rap rle rfu rba rru rti rtk rsv ((X1_current rpt rph rgr rca rne rap rle rfu rba rru rti rgi rpa n i).2.1) ((X1_current rpt rph rgr rca rne rap rle rfu rba rru rti rgi rpa n i).2.2.1) ((X1_current rpt rph rgr rca rne rap rle rfu rba rru rti rgi rpa n i).2.2.2)) H := by rw [X1_current, if_neg c5]; exact hP9
      have hD8 : va_D A (mW cI cZ h a rpt rph rgr rca rne rap rle rfu rba rru rti rtk rsv ((X1_current rpt rph rgr rca rne rap rle rfu rba rru rti rgi rpa n i).2.1) ((X1_current rpt rph rgr rca rne rap rle rfu rba rru rti rgi rpa n i).2.2.1) ((X1_current rpt rph rgr rca rne rap rle rfu rba rru rti rgi rpa n i).2.2.2)) := by rw [X1_current, if_neg c5]; exact hD9
      exact hret H locs 20 ls (((X1_shares rph rgr rca rne rap rle rfu rba rru rti rgi rpa n).1) i.toNatClampNeg) hS hP8 hD8 (by rw [X1_current, if_neg c5]) dX1_current_20
    · refine lv_iconst (v := 0) hx hb dX1_current_8 (by decide) ?_
      have hP9 := hP; have hD9 := hD
      subst hz1
      have hP8 : va_P (dC, dI) vwCl (mW cI cZ h a rpt rph rgr rca rne rap rle rfu rba rru rti rtk rsv ((X1_current rpt rph rgr rca rne rap rle rfu rba rru rti rgi rpa n i).2.1) ((X1_current rpt rph rgr rca rne rap rle rfu rba rru rti rgi rpa n i).2.2.1) ((X1_current rpt rph rgr rca rne rap rle rfu rba rru rti rgi rpa n i).2.2.2)) H := by rw [X1_current, if_pos c5]; exact hP9
      have hD8 : va_D A (mW cI cZ h a rpt rph rgr rca rne rap rle rfu rba rru rti rtk rsv ((X1_current rpt rph rgr rca rne rap rle rfu rba rru rti rgi rpa n i).2.1) ((X1_current rpt rph rgr rca rne rap rle rfu rba rru rti rgi rpa n i).2.2.1) ((X1_current rpt rph rgr rca rne rap rle rfu rba rru rti rgi rpa n i).2.2.2)) := by rw [X1_current, if_pos c5]; exact hD9
      exact hret H locs 9 ls 0 hS hP8 hD8 (by rw [X1_current, if_pos c5]) dX1_current_9
  exact hW _ _ hP hD hS
def X1_load (rph : AR) (rgr : AR) (rca : AR) (rne : AR) (rap : AR) (rle : AR) (rfu : AR) (rba : Int32) (rru : Int32) (rti : Int32) (rgi : AR) (rpa : AR) (n : Nat) (f : Int32) : Int32 × AR × AR × Int32 := (if (X1_isIn f 0 2) = 0 then (0, rgi, rpa, 1) else ((X1_flows rph ((X1_shares rph rgr rca rne rap rle rfu rba rru rti rgi rpa n).1) n f), ((X1_shares rph rgr rca rne rap rle rfu rba rru rti rgi rpa n).1), ((X1_shares rph rgr rca rne rap rle rfu rba rru rti rgi rpa n).2), 0))
abbrev rmX1_load : Room := { frames := 5, cells := 0, slots := 0, locals := 110 }
theorem hd_X1_load : yX1_load.cls = RX1 ∧ yX1_load.cls ≠ "java/lang/invoke/MethodHandle" ∧ yX1_load.cls ≠ "java/lang/invoke/VarHandle" ∧ (parseMethodDescriptor yX1_load.desc).map (fun d => d.parameters.length) = some 1 := by decide +kernel
set_option maxHeartbeats 4000000 in
set_option maxRecDepth 100000 in
theorem c_X1_load (l : Launch) (dC : Nat → ClassId) (dI : Nat → Nat → Nat) (cI cZ : ClassId) (h : Nat) (a : Nat → Nat) (rpt : Int32) (rph : AR) (rgr : AR) (rca : AR) (rne : AR) (rap : AR) (rle : AR) (rfu : AR) (rba : Int32) (rru : Int32) (rti : Int32) (rtk : Int32) (rsv : Int32) (rgi : AR) (rpa : AR) (rth : Int32) (n : Nat) (f : Int32) (hpc : rpt = nI n) (hn : n ≤ 8) (hI : mI rgr rca rap n) : Ki l yX1_load wsX1_load rmX1_load dC dI cI cZ [.ref h, .int f] (mW cI cZ h a rpt rph rgr rca rne rap rle rfu rba rru rti rtk rsv rgi rpa rth) (mW cI cZ h a rpt rph rgr rca rne rap rle rfu rba rru rti rtk rsv ((X1_load rph rgr rca rne rap rle rfu rba rru rti rgi rpa n f).2.1) ((X1_load rph rgr rca rne rap rle rfu rba rru rti rgi rpa n f).2.2.1) ((X1_load rph rgr rca rne rap rle rfu rba rru rti rgi rpa n f).2.2.2)) (X1_load rph rgr rca rne rap rle rfu rba rru rti rgi rpa n f).1 := by
  refine k_enter_i (cc := cX1_load) (maxL := 2) (ret := some .int) (by decide) rfl (Nat.le_of_ble_eq_true rfl) ?_
  intro p e s m below meth c A ls hC hr hlocks hK hP hD hS hA hl
  generalize List.toArray _ = args at hC ⊢
  obtain ⟨hx, hb, hml, hown, hts⟩ := id hC
  have hret : ∀ (H : Heap) (locs : List Loc) (pc : Nat) (ls : Array Slot) (r : Int32), va_S A s.heap H locs → va_P (dC, dI) vwCl (mW cI cZ h a rpt rph rgr rca rne rap rle rfu rba rru rti rtk rsv ((X1_load rph rgr rca rne rap rle rfu rba rru rti rgi rpa n f).2.1) ((X1_load rph rgr rca rne rap rle rfu rba rru rti rgi rpa n f).2.2.1) ((X1_load rph rgr rca rne rap rle rfu rba rru rti rgi rpa n f).2.2.2)) H → va_D A (mW cI cZ h a rpt rph rgr rca rne rap rle rfu rba rru rti rtk rsv ((X1_load rph rgr rca rne rap rle rfu rba rru rti rgi rpa n f).2.1) ((X1_load rph rgr rca rne rap rle rfu rba rru rti rgi rpa n f).2.2.1) ((X1_load rph rgr rca rne rap rle rfu rba rru rti rgi rpa n f).2.2.2)) → r = (X1_load rph rgr rca rne rap rle rfu rba rru rti rgi rpa n f).1 → decode cX1_load pc = .ok (.ireturn, 1) → W p l e rmX1_load s m args below meth c H locs 0 0 (MQ below (va_Qi (fun r (_ : Unit) => r = (X1_load rph rgr rca rne rap rle rfu rba rru rti rgi rpa n f).1) (kBeh dC dI A (mW cI cZ h a rpt rph rgr rca rne rap rle rfu rba rru rti rtk rsv ((X1_load rph rgr rca rne rap rle rfu rba rru rti rgi rpa n f).2.1) ((X1_load rph rgr rca rne rap rle rfu rba rru rti rgi rpa n f).2.2.1) ((X1_load rph rgr rca rne rap rle rfu rba rru rti rgi rpa n f).2.2.2))) A) args s 0 0 A) (F0 m pc ls [.int r]) := fun H locs pc ls r hS hP hD hv d => k_iret hx hb hr hlocks hS hP hD hv d
  generalize MQ below _ _ _ _ _ _ = Q at hret ⊢
  have hin : ∀ w ∈ wsX10, w ∈ wsX1_load := by decide +kernel
  have hw0 := hts (.fieldLink RX1 42 "ChargeParkModel" "thrown" "I") (by decide +kernel)
  have hl : lv_has ls 2 [(0, .ref h), (1, .int f)] := hl
  have hP : va_P (dC, dI) vwCl (mW cI cZ h a rpt rph rgr rca rne rap rle rfu rba rru rti rtk rsv rgi rpa rth) s.heap := hP
  have hW : ∀ (H : Heap) (locs : List Loc), va_P (dC, dI) vwCl (mW cI cZ h a rpt rph rgr rca rne rap rle rfu rba rru rti rtk rsv rgi rpa rth) H → va_D A (mW cI cZ h a rpt rph rgr rca rne rap rle rfu rba rru rti rtk rsv rgi rpa rth) → va_S A s.heap H locs → W p l e rmX1_load s m args below meth c H locs 0 0 Q (F0 m 0 ls []) := by
    intro H locs hP hD hS
    refine lv_aload_n hx hb dX1_load_0 rfl (lv_at hl 0 rfl) ?_
    refine lv_iload_n hx hb dX1_load_1 rfl (lv_at hl 1 rfl) ?_
    refine lv_iconst (v := 0) hx hb dX1_load_2 (by decide) ?_
    refine lv_iconst (v := 2) hx hb dX1_load_3 (by decide) ?_
    refine k_calls (rest := [.ref h]) (As := [.int f, .int 0, .int 2]) hC (c_X1_isIn l dC dI cI cZ (mW cI cZ h a rpt rph rgr rca rne rap rle rfu rba rru rti rtk rsv rgi rpa rth) f 0 2 ) (va_cwS 3 hts gX1_load_X1_isIn rfl rfl rfl hd_X1_isIn ⟨Nat.le_of_ble_eq_true rfl, Nat.le_of_ble_eq_true rfl⟩) hK hP hD hS hA rfl hl.1 (Nat.le_of_ble_eq_true rfl) dX1_load_4 rfl ⟨Nat.zero_le _, Nat.zero_le _⟩ (fun H locs hP hD hS => ?_)
    refine lv_if_eq (tgt := 14) hx hb dX1_load_7 (by decide) (fun c7 => ?_) (fun c7 => ?_)
    · refine lv_iconst (v := 1) hx hb dX1_load_14 (by decide) ?_
      refine va_put (D := (dC, dI)) (ci := 1) (v := .int 1) (ty := .int) (C := RX1) (T := TX1) (N := 16) hx hb hts hin tyX1 tyX1_ok nmX1 hown hK hP hD hS 0 rfl rfl 15 (by decide) hw0 (fun _ h9 => h9) rfl mfd15 rfl rfl (Nat.le_of_ble_eq_true rfl) dX1_load_15 (fun H locs hP hD hS => ?_)
      have hP : va_P (dC, dI) vwCl (mW cI cZ h a rpt rph rgr rca rne rap rle rfu rba rru rti rtk rsv rgi rpa 1) H := hP
      have hD : va_D A (mW cI cZ h a rpt rph rgr rca rne rap rle rfu rba rru rti rtk rsv rgi rpa 1) := hD
      refine lv_aload_n hx hb dX1_load_18 rfl (lv_at hl 0 rfl) ?_
      refine va_get (D := (dC, dI)) (ci := 1) (v := .int 1) (C := RX1) (T := TX1) (N := 16) hx hb hts hin hown hK hP 0 rfl rfl 15 (by decide) hw0 (fun _ h9 => h9) rfl dX1_load_19 ?_
      refine lv_if_le (tgt := 27) hx hb dX1_load_22 (by decide) (fun c => absurd c (by decide)) (fun _ => ?_)
      refine lv_iconst (v := 0) hx hb dX1_load_25 (by decide) ?_
      have hP8 : va_P (dC, dI) vwCl (mW cI cZ h a rpt rph rgr rca rne rap rle rfu rba rru rti rtk rsv ((X1_load rph rgr rca rne rap rle rfu rba rru rti rgi rpa n f).2.1) ((X1_load rph rgr rca rne rap rle rfu rba rru rti rgi rpa n f).2.2.1) ((X1_load rph rgr rca rne rap rle rfu rba rru rti rgi rpa n f).2.2.2)) H := by rw [X1_load, if_pos c7]; exact hP
      have hD8 : va_D A (mW cI cZ h a rpt rph rgr rca rne rap rle rfu rba rru rti rtk rsv ((X1_load rph rgr rca rne rap rle rfu rba rru rti rgi rpa n f).2.1) ((X1_load rph rgr rca rne rap rle rfu rba rru rti rgi rpa n f).2.2.1) ((X1_load rph rgr rca rne rap rle rfu rba rru rti rgi rpa n f).2.2.2)) := by rw [X1_load, if_pos c7]; exact hD
      exact hret H locs 26 ls 0 hS hP8 hD8 (by rw [X1_load, if_pos c7]) dX1_load_26
    · refine lv_iconst (v := 0) hx hb dX1_load_10 (by decide) ?_
      refine lv_goto (tgt := 15) hx hb dX1_load_11 (by decide) ?_
      refine va_put (D := (dC, dI)) (ci := 1) (v := .int 0) (ty := .int) (C := RX1) (T := TX1) (N := 16) hx hb hts hin tyX1 tyX1_ok nmX1 hown hK hP hD hS 0 rfl rfl 15 (by decide) hw0 (fun _ h9 => h9) rfl mfd15 rfl rfl (Nat.le_of_ble_eq_true rfl) dX1_load_15 (fun H locs hP hD hS => ?_)
      have hP : va_P (dC, dI) vwCl (mW cI cZ h a rpt rph rgr rca rne rap rle rfu rba rru rti rtk rsv rgi rpa 0) H := hP
      have hD : va_D A (mW cI cZ h a rpt rph rgr rca rne rap rle rfu rba rru rti rtk rsv rgi rpa 0) := hD
      refine lv_aload_n hx hb dX1_load_18 rfl (lv_at hl 0 rfl) ?_
      refine va_get (D := (dC, dI)) (ci := 1) (v := .int 0) (C := RX1) (T := TX1) (N := 16) hx hb hts hin hown hK hP 0 rfl rfl 15 (by decide) hw0 (fun _ h9 => h9) rfl dX1_load_19 ?_
      refine lv_if_le (tgt := 27) hx hb dX1_load_22 (by decide) (fun _ => ?_) (fun c => absurd (by decide) c)
      refine lv_aload_n hx hb dX1_load_27 rfl (lv_at hl 0 rfl) ?_
      refine k_callv (rest := []) (q0 := 0) hC (c_X1_shares l dC dI cI cZ h a rpt rph rgr rca rne rap rle rfu rba rru rti rtk rsv rgi rpa 0 n  hpc hn hI (X1_shares_T1 hn hI) (X1_shares_T2 hn hI) (X1_shares_T3 hn hI)) (cwV 0 hts gX1_load_X1_shares rfl rfl rfl hd_X1_shares ⟨Nat.le_of_ble_eq_true rfl, Nat.le_of_ble_eq_true rfl⟩) hK hP hD hS hA rfl rfl rfl hl.1 (Nat.le_of_ble_eq_true rfl) dX1_load_28 rfl ⟨Nat.zero_le _, Nat.zero_le _⟩ (fun H locs hP hD hS => ?_)
      obtain ⟨z1, hz1⟩ : ∃ z : AR, z = ((X1_shares rph rgr rca rne rap rle rfu rba rru rti rgi rpa n).1) := ⟨_, rfl⟩
      rw [← hz1] at hP hD
      obtain ⟨z2, hz2⟩ : ∃ z : AR, z = ((X1_shares rph rgr rca rne rap rle rfu rba rru rti rgi rpa n).2) := ⟨_, rfl⟩
      rw [← hz2] at hP hD
      have hP : va_P (dC, dI) vwCl (mW cI cZ h a rpt rph rgr rca rne rap rle rfu rba rru rti rtk rsv z1 z2 0) H := hP
      have hD : va_D A (mW cI cZ h a rpt rph rgr rca rne rap rle rfu rba rru rti rtk rsv z1 z2 0) := hD
      refine lv_aload_n hx hb dX1_load_31 rfl (lv_at hl 0 rfl) ?_
      refine lv_iload_n hx hb dX1_load_32 rfl (lv_at hl 1 rfl) ?_
      refine k_calli (rest := []) (q0 := 0) hC (c_X1_flows l dC dI cI cZ h a rpt rph rgr rca rne rap rle rfu rba rru rti rtk rsv z1 z2 0 n f hpc hn) (cwV 1 hts gX1_load_X1_flows rfl rfl rfl hd_X1_flows ⟨Nat.le_of_ble_eq_true rfl, Nat.le_of_ble_eq_true rfl⟩) hK hP hD hS hA rfl rfl rfl hl.1 (Nat.le_of_ble_eq_true rfl) dX1_load_33 rfl ⟨Nat.zero_le _, Nat.zero_le _⟩ (fun H locs hP hD hS => ?_)
      have hP9 := hP; have hD9 := hD
      subst hz1 hz2
      have hP8 : va_P (dC, dI) vwCl (mW cI cZ h a rpt rph rgr rca rne rap rle rfu rba rru rti rtk rsv ((X1_load rph rgr rca rne rap rle rfu rba rru rti rgi rpa n f).2.1) ((X1_load rph rgr rca rne rap rle rfu rba rru rti rgi rpa n f).2.2.1) ((X1_load rph rgr rca rne rap rle rfu rba rru rti rgi rpa n f).2.2.2)) H := by rw [X1_load, if_neg c7]; exact hP9
      have hD8 : va_D A (mW cI cZ h a rpt rph rgr rca rne rap rle rfu rba rru rti rtk rsv ((X1_load rph rgr rca rne rap rle rfu rba rru rti rgi rpa n f).2.1) ((X1_load rph rgr rca rne rap rle rfu rba rru rti rgi rpa n f).2.2.1) ((X1_load rph rgr rca rne rap rle rfu rba rru rti rgi rpa n f).2.2.2)) := by rw [X1_load, if_neg c7]; exact hD9
      exact hret H locs 36 ls (X1_flows rph ((X1_shares rph rgr rca rne rap rle rfu rba rru rti rgi rpa n).1) n f) hS hP8 hD8 (by rw [X1_load, if_neg c7]) dX1_load_36
  exact hW _ _ hP hD hS
def X1_imbalance (rph : AR) (rgr : AR) (rca : AR) (rne : AR) (rap : AR) (rle : AR) (rfu : AR) (rba : Int32) (rru : Int32) (rti : Int32) (rgi : AR) (rpa : AR) (n : Nat) : Int32 × AR × AR × Int32 := ((X1_apart rph ((X1_shares rph rgr rca rne rap rle rfu rba rru rti rgi rpa n).1) n), ((X1_shares rph rgr rca rne rap rle rfu rba rru rti rgi rpa n).1), ((X1_shares rph rgr rca rne rap rle rfu rba rru rti rgi rpa n).2), 0)
abbrev rmX1_imbalance : Room := { frames := 5, cells := 0, slots := 0, locals := 110 }
theorem hd_X1_imbalance : yX1_imbalance.cls = RX1 ∧ yX1_imbalance.cls ≠ "java/lang/invoke/MethodHandle" ∧ yX1_imbalance.cls ≠ "java/lang/invoke/VarHandle" ∧ (parseMethodDescriptor yX1_imbalance.desc).map (fun d => d.parameters.length) = some 0 := by decide +kernel
set_option maxHeartbeats 4000000 in
set_option maxRecDepth 100000 in
theorem c_X1_imbalance (l : Launch) (dC : Nat → ClassId) (dI : Nat → Nat → Nat) (cI cZ : ClassId) (h : Nat) (a : Nat → Nat) (rpt : Int32) (rph : AR) (rgr : AR) (rca : AR) (rne : AR) (rap : AR) (rle : AR) (rfu : AR) (rba : Int32) (rru : Int32) (rti : Int32) (rtk : Int32) (rsv : Int32) (rgi : AR) (rpa : AR) (rth : Int32) (n : Nat) (hpc : rpt = nI n) (hn : n ≤ 8) (hI : mI rgr rca rap n) : Ki l yX1_imbalance wsX1_imbalance rmX1_imbalance dC dI cI cZ [.ref h] (mW cI cZ h a rpt rph rgr rca rne rap rle rfu rba rru rti rtk rsv rgi rpa rth) (mW cI cZ h a rpt rph rgr rca rne rap rle rfu rba rru rti rtk rsv ((X1_imbalance rph rgr rca rne rap rle rfu rba rru rti rgi rpa n).2.1) ((X1_imbalance rph rgr rca rne rap rle rfu rba rru rti rgi rpa n).2.2.1) ((X1_imbalance rph rgr rca rne rap rle rfu rba rru rti rgi rpa n).2.2.2)) (X1_imbalance rph rgr rca rne rap rle rfu rba rru rti rgi rpa n).1 := by
  refine k_enter_i (cc := cX1_imbalance) (maxL := 1) (ret := some .int) (by decide) rfl (Nat.le_of_ble_eq_true rfl) ?_
  intro p e s m below meth c A ls hC hr hlocks hK hP hD hS hA hl
  generalize List.toArray _ = args at hC ⊢
  obtain ⟨hx, hb, hml, hown, hts⟩ := id hC
  have hret : ∀ (H : Heap) (locs : List Loc) (pc : Nat) (ls : Array Slot) (r : Int32), va_S A s.heap H locs → va_P (dC, dI) vwCl (mW cI cZ h a rpt rph rgr rca rne rap rle rfu rba rru rti rtk rsv ((X1_imbalance rph rgr rca rne rap rle rfu rba rru rti rgi rpa n).2.1) ((X1_imbalance rph rgr rca rne rap rle rfu rba rru rti rgi rpa n).2.2.1) ((X1_imbalance rph rgr rca rne rap rle rfu rba rru rti rgi rpa n).2.2.2)) H → va_D A (mW cI cZ h a rpt rph rgr rca rne rap rle rfu rba rru rti rtk rsv ((X1_imbalance rph rgr rca rne rap rle rfu rba rru rti rgi rpa n).2.1) ((X1_imbalance rph rgr rca rne rap rle rfu rba rru rti rgi rpa n).2.2.1) ((X1_imbalance rph rgr rca rne rap rle rfu rba rru rti rgi rpa n).2.2.2)) → r = (X1_imbalance rph rgr rca rne rap rle rfu rba rru rti rgi rpa n).1 → decode cX1_imbalance pc = .ok (.ireturn, 1) → W p l e rmX1_imbalance s m args below meth c H locs 0 0 (MQ below (va_Qi (fun r (_ : Unit) => r = (X1_imbalance rph rgr rca rne rap rle rfu rba rru rti rgi rpa n).1) (kBeh dC dI A (mW cI cZ h a rpt rph rgr rca rne rap rle rfu rba rru rti rtk rsv ((X1_imbalance rph rgr rca rne rap rle rfu rba rru rti rgi rpa n).2.1) ((X1_imbalance rph rgr rca rne rap rle rfu rba rru rti rgi rpa n).2.2.1) ((X1_imbalance rph rgr rca rne rap rle rfu rba rru rti rgi rpa n).2.2.2))) A) args s 0 0 A) (F0 m pc ls [.int r]) := fun H locs pc ls r hS hP hD hv d => k_iret hx hb hr hlocks hS hP hD hv d
  generalize MQ below _ _ _ _ _ _ = Q at hret ⊢
  have hin : ∀ w ∈ wsX10, w ∈ wsX1_imbalance := by decide +kernel
  have hw0 := hts (.fieldLink RX1 42 "ChargeParkModel" "thrown" "I") (by decide +kernel)
  have hl : lv_has ls 1 [(0, .ref h)] := hl
  have hP : va_P (dC, dI) vwCl (mW cI cZ h a rpt rph rgr rca rne rap rle rfu rba rru rti rtk rsv rgi rpa rth) s.heap := hP
  have hW : ∀ (H : Heap) (locs : List Loc), va_P (dC, dI) vwCl (mW cI cZ h a rpt rph rgr rca rne rap rle rfu rba rru rti rtk rsv rgi rpa rth) H → va_D A (mW cI cZ h a rpt rph rgr rca rne rap rle rfu rba rru rti rtk rsv rgi rpa rth) → va_S A s.heap H locs → W p l e rmX1_imbalance s m args below meth c H locs 0 0 Q (F0 m 0 ls []) := by
    intro H locs hP hD hS
    refine lv_aload_n hx hb dX1_imbalance_0 rfl (lv_at hl 0 rfl) ?_
    refine lv_iconst (v := 0) hx hb dX1_imbalance_1 (by decide) ?_
    refine va_put (D := (dC, dI)) (ci := 1) (v := .int 0) (ty := .int) (C := RX1) (T := TX1) (N := 16) hx hb hts hin tyX1 tyX1_ok nmX1 hown hK hP hD hS 0 rfl rfl 15 (by decide) hw0 (fun _ h9 => h9) rfl mfd15 rfl rfl (Nat.le_of_ble_eq_true rfl) dX1_imbalance_2 (fun H locs hP hD hS => ?_)
    have hP : va_P (dC, dI) vwCl (mW cI cZ h a rpt rph rgr rca rne rap rle rfu rba rru rti rtk rsv rgi rpa 0) H := hP
    have hD : va_D A (mW cI cZ h a rpt rph rgr rca rne rap rle rfu rba rru rti rtk rsv rgi rpa 0) := hD
    refine lv_aload_n hx hb dX1_imbalance_5 rfl (lv_at hl 0 rfl) ?_
    refine k_callv (rest := []) (q0 := 0) hC (c_X1_shares l dC dI cI cZ h a rpt rph rgr rca rne rap rle rfu rba rru rti rtk rsv rgi rpa 0 n  hpc hn hI (X1_shares_T1 hn hI) (X1_shares_T2 hn hI) (X1_shares_T3 hn hI)) (cwV 0 hts gX1_imbalance_X1_shares rfl rfl rfl hd_X1_shares ⟨Nat.le_of_ble_eq_true rfl, Nat.le_of_ble_eq_true rfl⟩) hK hP hD hS hA rfl rfl rfl hl.1 (Nat.le_of_ble_eq_true rfl) dX1_imbalance_6 rfl ⟨Nat.zero_le _, Nat.zero_le _⟩ (fun H locs hP hD hS => ?_)
    obtain ⟨z1, hz1⟩ : ∃ z : AR, z = ((X1_shares rph rgr rca rne rap rle rfu rba rru rti rgi rpa n).1) := ⟨_, rfl⟩
    rw [← hz1] at hP hD
    obtain ⟨z2, hz2⟩ : ∃ z : AR, z = ((X1_shares rph rgr rca rne rap rle rfu rba rru rti rgi rpa n).2) := ⟨_, rfl⟩
    rw [← hz2] at hP hD
    have hP : va_P (dC, dI) vwCl (mW cI cZ h a rpt rph rgr rca rne rap rle rfu rba rru rti rtk rsv z1 z2 0) H := hP
    have hD : va_D A (mW cI cZ h a rpt rph rgr rca rne rap rle rfu rba rru rti rtk rsv z1 z2 0) := hD
    refine lv_aload_n hx hb dX1_imbalance_9 rfl (lv_at hl 0 rfl) ?_
    refine k_calli (rest := []) (q0 := 0) hC (c_X1_apart l dC dI cI cZ h a rpt rph rgr rca rne rap rle rfu rba rru rti rtk rsv z1 z2 0 n  hpc hn) (cwV 0 hts gX1_imbalance_X1_apart rfl rfl rfl hd_X1_apart ⟨Nat.le_of_ble_eq_true rfl, Nat.le_of_ble_eq_true rfl⟩) hK hP hD hS hA rfl rfl rfl hl.1 (Nat.le_of_ble_eq_true rfl) dX1_imbalance_10 rfl ⟨Nat.zero_le _, Nat.zero_le _⟩ (fun H locs hP hD hS => ?_)
    have hP9 := hP; have hD9 := hD
    subst hz1 hz2
    have hP8 : va_P (dC, dI) vwCl (mW cI cZ h a rpt rph rgr rca rne rap rle rfu rba rru rti rtk rsv ((X1_imbalance rph rgr rca rne rap rle rfu rba rru rti rgi rpa n).2.1) ((X1_imbalance rph rgr rca rne rap rle rfu rba rru rti rgi rpa n).2.2.1) ((X1_imbalance rph rgr rca rne rap rle rfu rba rru rti rgi rpa n).2.2.2)) H := by rw [X1_imbalance]; exact hP9
    have hD8 : va_D A (mW cI cZ h a rpt rph rgr rca rne rap rle rfu rba rru rti rtk rsv ((X1_imbalance rph rgr rca rne rap rle rfu rba rru rti rgi rpa n).2.1) ((X1_imbalance rph rgr rca rne rap rle rfu rba rru rti rgi rpa n).2.2.1) ((X1_imbalance rph rgr rca rne rap rle rfu rba rru rti rgi rpa n).2.2.2)) := by rw [X1_imbalance]; exact hD9
    exact hret H locs 13 ls (X1_apart rph ((X1_shares rph rgr rca rne rap rle rfu rba rru rti rgi rpa n).1) n) hS hP8 hD8 (by rw [X1_imbalance]) dX1_imbalance_13
  exact hW _ _ hP hD hS
def X1_held_L13 (rph : AR) (rgr : AR) (rca : AR) (rne : AR) (rap : AR) (rle : AR) (rfu : AR) (rba : Int32) (rru : Int32) (rti : Int32) (rgi : AR) (rpa : AR) (n : Nat) : Nat → Nat → Int32 → Int32
  | 0, k, se => se
  | j + 1, k, se => (if (X1_reaches rph rgr rca rne rap rle rti (nI k)) ≤ (((X1_shares rph rgr rca rne rap rle rfu rba rru rti rgi rpa n).1) (nI k).toNatClampNeg) then X1_held_L13 rph rgr rca rne rap rle rfu rba rru rti rgi rpa n  j (k + 1) (se ||| 0) else X1_held_L13 rph rgr rca rne rap rle rfu rba rru rti rgi rpa n  j (k + 1) (se ||| (1 <<< ((nI k) &&& 31))))
def X1_held (rph : AR) (rgr : AR) (rca : AR) (rne : AR) (rap : AR) (rle : AR) (rfu : AR) (rba : Int32) (rru : Int32) (rti : Int32) (rgi : AR) (rpa : AR) (n : Nat) : Int32 × AR × AR × Int32 := (((X1_held_L13 rph rgr rca rne rap rle rfu rba rru rti rgi rpa n  n 0 0)), ((X1_shares rph rgr rca rne rap rle rfu rba rru rti rgi rpa n).1), ((X1_shares rph rgr rca rne rap rle rfu rba rru rti rgi rpa n).2), 0)
abbrev rmX1_held : Room := { frames := 5, cells := 0, slots := 0, locals := 110 }
theorem hd_X1_held : yX1_held.cls = RX1 ∧ yX1_held.cls ≠ "java/lang/invoke/MethodHandle" ∧ yX1_held.cls ≠ "java/lang/invoke/VarHandle" ∧ (parseMethodDescriptor yX1_held.desc).map (fun d => d.parameters.length) = some 0 := by decide +kernel
set_option maxHeartbeats 4000000 in
set_option maxRecDepth 100000 in
theorem c_X1_held (l : Launch) (dC : Nat → ClassId) (dI : Nat → Nat → Nat) (cI cZ : ClassId) (h : Nat) (a : Nat → Nat) (rpt : Int32) (rph : AR) (rgr : AR) (rca : AR) (rne : AR) (rap : AR) (rle : AR) (rfu : AR) (rba : Int32) (rru : Int32) (rti : Int32) (rtk : Int32) (rsv : Int32) (rgi : AR) (rpa : AR) (rth : Int32) (n : Nat) (hpc : rpt = nI n) (hn : n ≤ 8) (hI : mI rgr rca rap n) : Ki l yX1_held wsX1_held rmX1_held dC dI cI cZ [.ref h] (mW cI cZ h a rpt rph rgr rca rne rap rle rfu rba rru rti rtk rsv rgi rpa rth) (mW cI cZ h a rpt rph rgr rca rne rap rle rfu rba rru rti rtk rsv ((X1_held rph rgr rca rne rap rle rfu rba rru rti rgi rpa n).2.1) ((X1_held rph rgr rca rne rap rle rfu rba rru rti rgi rpa n).2.2.1) ((X1_held rph rgr rca rne rap rle rfu rba rru rti rgi rpa n).2.2.2)) (X1_held rph rgr rca rne rap rle rfu rba rru rti rgi rpa n).1 := by
  refine k_enter_i (cc := cX1_held) (maxL := 3) (ret := some .int) (by decide) rfl (Nat.le_of_ble_eq_true rfl) ?_
  intro p e s m below meth c A ls hC hr hlocks hK hP hD hS hA hl
  generalize List.toArray _ = args at hC ⊢
  obtain ⟨hx, hb, hml, hown, hts⟩ := id hC
  have hret : ∀ (H : Heap) (locs : List Loc) (pc : Nat) (ls : Array Slot) (r : Int32), va_S A s.heap H locs → va_P (dC, dI) vwCl (mW cI cZ h a rpt rph rgr rca rne rap rle rfu rba rru rti rtk rsv ((X1_held rph rgr rca rne rap rle rfu rba rru rti rgi rpa n).2.1) ((X1_held rph rgr rca rne rap rle rfu rba rru rti rgi rpa n).2.2.1) ((X1_held rph rgr rca rne rap rle rfu rba rru rti rgi rpa n).2.2.2)) H → va_D A (mW cI cZ h a rpt rph rgr rca rne rap rle rfu rba rru rti rtk rsv ((X1_held rph rgr rca rne rap rle rfu rba rru rti rgi rpa n).2.1) ((X1_held rph rgr rca rne rap rle rfu rba rru rti rgi rpa n).2.2.1) ((X1_held rph rgr rca rne rap rle rfu rba rru rti rgi rpa n).2.2.2)) → r = (X1_held rph rgr rca rne rap rle rfu rba rru rti rgi rpa n).1 → decode cX1_held pc = .ok (.ireturn, 1) → W p l e rmX1_held s m args below meth c H locs 0 0 (MQ below (va_Qi (fun r (_ : Unit) => r = (X1_held rph rgr rca rne rap rle rfu rba rru rti rgi rpa n).1) (kBeh dC dI A (mW cI cZ h a rpt rph rgr rca rne rap rle rfu rba rru rti rtk rsv ((X1_held rph rgr rca rne rap rle rfu rba rru rti rgi rpa n).2.1) ((X1_held rph rgr rca rne rap rle rfu rba rru rti rgi rpa n).2.2.1) ((X1_held rph rgr rca rne rap rle rfu rba rru rti rgi rpa n).2.2.2))) A) args s 0 0 A) (F0 m pc ls [.int r]) := fun H locs pc ls r hS hP hD hv d => k_iret hx hb hr hlocks hS hP hD hv d
  generalize MQ below _ _ _ _ _ _ = Q at hret ⊢
  have hin : ∀ w ∈ wsX10, w ∈ wsX1_held := by decide +kernel
  have hw0 := hts (.fieldLink RX1 42 "ChargeParkModel" "thrown" "I") (by decide +kernel)
  have hw1 := hts (.fieldLink RX1 49 "ChargeParkModel" "points" "I") (by decide +kernel)
  have hw2 := hts (.fieldLink RX1 36 "ChargeParkModel" "given" "[I") (by decide +kernel)
  have hl : lv_has ls 3 [(0, .ref h)] := hl
  have hP : va_P (dC, dI) vwCl (mW cI cZ h a rpt rph rgr rca rne rap rle rfu rba rru rti rtk rsv rgi rpa rth) s.heap := hP
  have hW : ∀ (H : Heap) (locs : List Loc), va_P (dC, dI) vwCl (mW cI cZ h a rpt rph rgr rca rne rap rle rfu rba rru rti rtk rsv rgi rpa rth) H → va_D A (mW cI cZ h a rpt rph rgr rca rne rap rle rfu rba rru rti rtk rsv rgi rpa rth) → va_S A s.heap H locs → W p l e rmX1_held s m args below meth c H locs 0 0 Q (F0 m 0 ls []) := by
    intro H locs hP hD hS
    refine lv_aload_n hx hb dX1_held_0 rfl (lv_at hl 0 rfl) ?_
    refine lv_iconst (v := 0) hx hb dX1_held_1 (by decide) ?_
    refine va_put (D := (dC, dI)) (ci := 1) (v := .int 0) (ty := .int) (C := RX1) (T := TX1) (N := 16) hx hb hts hin tyX1 tyX1_ok nmX1 hown hK hP hD hS 0 rfl rfl 15 (by decide) hw0 (fun _ h9 => h9) rfl mfd15 rfl rfl (Nat.le_of_ble_eq_true rfl) dX1_held_2 (fun H locs hP hD hS => ?_)
    have hP : va_P (dC, dI) vwCl (mW cI cZ h a rpt rph rgr rca rne rap rle rfu rba rru rti rtk rsv rgi rpa 0) H := hP
    have hD : va_D A (mW cI cZ h a rpt rph rgr rca rne rap rle rfu rba rru rti rtk rsv rgi rpa 0) := hD
    refine lv_aload_n hx hb dX1_held_5 rfl (lv_at hl 0 rfl) ?_
    refine k_callv (rest := []) (q0 := 0) hC (c_X1_shares l dC dI cI cZ h a rpt rph rgr rca rne rap rle rfu rba rru rti rtk rsv rgi rpa 0 n  hpc hn hI (X1_shares_T1 hn hI) (X1_shares_T2 hn hI) (X1_shares_T3 hn hI)) (cwV 0 hts gX1_held_X1_shares rfl rfl rfl hd_X1_shares ⟨Nat.le_of_ble_eq_true rfl, Nat.le_of_ble_eq_true rfl⟩) hK hP hD hS hA rfl rfl rfl hl.1 (Nat.le_of_ble_eq_true rfl) dX1_held_6 rfl ⟨Nat.zero_le _, Nat.zero_le _⟩ (fun H locs hP hD hS => ?_)
    obtain ⟨z1, hz1⟩ : ∃ z : AR, z = ((X1_shares rph rgr rca rne rap rle rfu rba rru rti rgi rpa n).1) := ⟨_, rfl⟩
    rw [← hz1] at hP hD
    obtain ⟨z2, hz2⟩ : ∃ z : AR, z = ((X1_shares rph rgr rca rne rap rle rfu rba rru rti rgi rpa n).2) := ⟨_, rfl⟩
    rw [← hz2] at hP hD
    have hP : va_P (dC, dI) vwCl (mW cI cZ h a rpt rph rgr rca rne rap rle rfu rba rru rti rtk rsv z1 z2 0) H := hP
    have hD : va_D A (mW cI cZ h a rpt rph rgr rca rne rap rle rfu rba rru rti rtk rsv z1 z2 0) := hD
    refine lv_iconst (v := 0) hx hb dX1_held_9 (by decide) ?_
    refine lv_istore_n (lv' := [(1, .int 0), (0, .ref h)]) hx hb dX1_held_10 rfl hl (by decide) rfl (fun ls hl => ?_)
    refine lv_iconst (v := 0) hx hb dX1_held_11 (by decide) ?_
    refine lv_istore_n (lv' := [(2, .int 0), (1, .int 0), (0, .ref h)]) hx hb dX1_held_12 rfl hl (by decide) rfl (fun ls hl => ?_)
    have cont13 : ∀ (z3 : Int32), z3 = (X1_held_L13 rph rgr rca rne rap rle rfu rba rru rti rgi rpa n  n 0 0) → ∀ (H : Heap) (locs : List Loc) (ls : Array Slot), va_P (dC, dI) vwCl (mW cI cZ h a rpt rph rgr rca rne rap rle rfu rba rru rti rtk rsv z1 z2 0) H → va_D A (mW cI cZ h a rpt rph rgr rca rne rap rle rfu rba rru rti rtk rsv z1 z2 0) → va_S A s.heap H locs → lv_has ls 3 [(0, .ref h), (1, .int z3)] → W p l e rmX1_held s m args below meth c H locs 0 0 Q (F0 m 51 ls []) := by
      intro z3 hz3 H locs ls hP hD hS hl
      refine lv_iload_n hx hb dX1_held_51 rfl (lv_at hl 1 rfl) ?_
      have hP9 := hP; have hD9 := hD
      subst hz1 hz2 hz3
      have hP8 : va_P (dC, dI) vwCl (mW cI cZ h a rpt rph rgr rca rne rap rle rfu rba rru rti rtk rsv ((X1_held rph rgr rca rne rap rle rfu rba rru rti rgi rpa n).2.1) ((X1_held rph rgr rca rne rap rle rfu rba rru rti rgi rpa n).2.2.1) ((X1_held rph rgr rca rne rap rle rfu rba rru rti rgi rpa n).2.2.2)) H := by rw [X1_held]; exact hP9
      have hD8 : va_D A (mW cI cZ h a rpt rph rgr rca rne rap rle rfu rba rru rti rtk rsv ((X1_held rph rgr rca rne rap rle rfu rba rru rti rgi rpa n).2.1) ((X1_held rph rgr rca rne rap rle rfu rba rru rti rgi rpa n).2.2.1) ((X1_held rph rgr rca rne rap rle rfu rba rru rti rgi rpa n).2.2.2)) := by rw [X1_held]; exact hD9
      exact hret H locs 52 ls ((X1_held_L13 rph rgr rca rne rap rle rfu rba rru rti rgi rpa n  n 0 0)) hS hP8 hD8 (by rw [X1_held]) dX1_held_52
    have loop13 : ∀ (j k : Nat) (se : Int32), k + j = n → X1_held_L13 rph rgr rca rne rap rle rfu rba rru rti rgi rpa n  j k se = (X1_held_L13 rph rgr rca rne rap rle rfu rba rru rti rgi rpa n  n 0 0) → ∀ (H : Heap) (locs : List Loc) (ls : Array Slot), va_P (dC, dI) vwCl (mW cI cZ h a rpt rph rgr rca rne rap rle rfu rba rru rti rtk rsv z1 z2 0) H → va_D A (mW cI cZ h a rpt rph rgr rca rne rap rle rfu rba rru rti rtk rsv z1 z2 0) → va_S A s.heap H locs → lv_has ls 3 [(0, .ref h), (1, .int se), (2, .int (nI k))] → W p l e rmX1_held s m args below meth c H locs 0 0 Q (F0 m 13 ls []) := by
      intro j
      induction j with
      | zero =>
        intro k se hk hR  H locs ls hP hD hS hl
        refine lv_iload_n hx hb dX1_held_13 rfl (lv_at hl 2 rfl) ?_
        refine lv_aload_n hx hb dX1_held_14 rfl (lv_at hl 0 rfl) ?_
        refine va_get (D := (dC, dI)) (ci := 1) (v := .int rpt) (C := RX1) (T := TX1) (N := 16) hx hb hts hin hown hK hP 0 rfl rfl 0 (by decide) hw1 (fun _ h9 => h9) rfl dX1_held_15 ?_
        refine lv_icmp_ge (tgt := 51) hx hb dX1_held_18 (by decide) (fun _ => ?_) (fun c => absurd (by rw [hpc]; exact nI_le (by omega) (by omega)) c)
        have hP9 := hP; have hD9 := hD; have hl9 := hl; have hR9 := hR
        subst hz1 hz2
        exact cont13 se (by rw [← hR9, X1_held_L13]) H locs ls hP9 hD9 hS (lv_sub hl9 [0, 1] rfl)
      | succ j ih =>
        intro k se hk hR  H locs ls hP hD hS hl
        refine lv_iload_n hx hb dX1_held_13 rfl (lv_at hl 2 rfl) ?_
        refine lv_aload_n hx hb dX1_held_14 rfl (lv_at hl 0 rfl) ?_
        refine va_get (D := (dC, dI)) (ci := 1) (v := .int rpt) (C := RX1) (T := TX1) (N := 16) hx hb hts hin hown hK hP 0 rfl rfl 0 (by decide) hw1 (fun _ h9 => h9) rfl dX1_held_15 ?_
        refine lv_icmp_ge (tgt := 51) hx hb dX1_held_18 (by decide) (fun c => absurd c (by rw [hpc]; exact nI_ge (by omega) (by omega))) (fun _ => ?_)
        refine lv_iload_n hx hb dX1_held_21 rfl (lv_at hl 1 rfl) ?_
        refine lv_aload_n hx hb dX1_held_22 rfl (lv_at hl 0 rfl) ?_
        refine va_get (D := (dC, dI)) (ci := 1) (v := .ref (a 13)) (C := RX1) (T := TX1) (N := 16) hx hb hts hin hown hK hP 0 rfl rfl 13 (by decide) hw2 (fun _ h9 => h9) rfl dX1_held_23 ?_
        refine lv_iload_n hx hb dX1_held_26 rfl (lv_at hl 2 rfl) ?_
        refine va_iald (f := z1) hx hb hK hP 8 0 rfl rfl (vp_in_nI (by omega) (by decide)) dX1_held_27 ?_
        refine lv_aload_n hx hb dX1_held_28 rfl (lv_at hl 0 rfl) ?_
        refine lv_iload_n hx hb dX1_held_29 rfl (lv_at hl 2 rfl) ?_
        refine k_calli (rest := [.int (z1 (nI k).toNatClampNeg), .int se]) (q0 := 0) hC (c_X1_reaches l dC dI cI cZ h a rpt rph rgr rca rne rap rle rfu rba rru rti rtk rsv z1 z2 0  (nI k) (vp_in_nI (by omega) (by decide))) (cwV 1 hts gX1_held_X1_reaches rfl rfl rfl hd_X1_reaches ⟨Nat.le_of_ble_eq_true rfl, Nat.le_of_ble_eq_true rfl⟩) hK hP hD hS hA rfl rfl rfl hl.1 (Nat.le_of_ble_eq_true rfl) dX1_held_30 rfl ⟨Nat.zero_le _, Nat.zero_le _⟩ (fun H locs hP hD hS => ?_)
        refine lv_icmp_ge (tgt := 42) hx hb dX1_held_33 (by decide) (fun c33 => ?_) (fun c33 => ?_)
        · refine lv_iconst (v := 0) hx hb dX1_held_42 (by decide) ?_
          refine lv_ior hx hb dX1_held_43 ?_
          refine lv_istore_n (lv' := [(1, .int (se ||| 0)), (0, .ref h), (2, .int (nI k))]) hx hb dX1_held_44 rfl hl (by decide) rfl (fun ls hl => ?_)
          refine lv_iinc (v := (nI (k + 1))) (lv' := [(2, .int (nI (k + 1))), (1, .int (se ||| 0)), (0, .ref h)]) hx hb dX1_held_45 hl (k := 2) rfl (nI_1 k) (by decide) rfl (fun ls hl => ?_)
          refine lv_goto (tgt := 13) hx hb dX1_held_48 (by decide) ?_
          have hP9 := hP; have hD9 := hD; have hl9 := hl; have hR9 := hR; have ih9 := ih
          subst hz1 hz2
          exact ih9 (k + 1) (se ||| 0) (by omega) (by rw [← hR9, X1_held_L13, if_pos c33])  H locs ls hP9 hD9 hS (lv_sub hl9 [2, 1, 0] rfl)
        · refine lv_iconst (v := 1) hx hb dX1_held_36 (by decide) ?_
          refine lv_iload_n hx hb dX1_held_37 rfl (lv_at hl 2 rfl) ?_
          refine lv_ishl hx hb dX1_held_38 ?_
          refine lv_goto (tgt := 43) hx hb dX1_held_39 (by decide) ?_
          refine lv_ior hx hb dX1_held_43 ?_
          refine lv_istore_n (lv' := [(1, .int (se ||| (1 <<< ((nI k) &&& 31)))), (0, .ref h), (2, .int (nI k))]) hx hb dX1_held_44 rfl hl (by decide) rfl (fun ls hl => ?_)
          refine lv_iinc (v := (nI (k + 1))) (lv' := [(2, .int (nI (k + 1))), (1, .int (se ||| (1 <<< ((nI k) &&& 31)))), (0, .ref h)]) hx hb dX1_held_45 hl (k := 2) rfl (nI_1 k) (by decide) rfl (fun ls hl => ?_)
          refine lv_goto (tgt := 13) hx hb dX1_held_48 (by decide) ?_
          have hP9 := hP; have hD9 := hD; have hl9 := hl; have hR9 := hR; have ih9 := ih
          subst hz1 hz2
          exact ih9 (k + 1) (se ||| (1 <<< ((nI k) &&& 31))) (by omega) (by rw [← hR9, X1_held_L13, if_neg c33])  H locs ls hP9 hD9 hS (lv_sub hl9 [2, 1, 0] rfl)
    exact loop13 n 0 0 (by omega) rfl  H locs ls hP hD hS (lv_sub hl [2, 1, 0] rfl)
  exact hW _ _ hP hD hS
def X1_canBeReady_L9 (rph : AR) (rgr : AR) (rca : AR) (rne : AR) (rap : AR) (rle : AR) (rti : Int32) (n : Nat) : Nat → Nat → Int32 → Int32
  | 0, k, is_ => is_
  | j + 1, k, is_ => (if (rca (nI k).toNatClampNeg) = 0 then X1_canBeReady_L9 rph rgr rca rne rap rle rti n  j (k + 1) (is_ &&& 1) else (if (rne (nI k).toNatClampNeg) = 0 then X1_canBeReady_L9 rph rgr rca rne rap rle rti n  j (k + 1) (is_ &&& 1) else (if (X1_lax rph rgr rne rap rle rti (nI k)) < 0 then X1_canBeReady_L9 rph rgr rca rne rap rle rti n  j (k + 1) (is_ &&& 0) else X1_canBeReady_L9 rph rgr rca rne rap rle rti n  j (k + 1) (is_ &&& 1))))
def X1_canBeReady (rph : AR) (rgr : AR) (rca : AR) (rne : AR) (rap : AR) (rle : AR) (rti : Int32) (n : Nat) : Int32 × Int32 := (((X1_canBeReady_L9 rph rgr rca rne rap rle rti n  n 0 1)), 0)
abbrev rmX1_canBeReady : Room := { frames := 2, cells := 0, slots := 0, locals := 42 }
theorem hd_X1_canBeReady : yX1_canBeReady.cls = RX1 ∧ yX1_canBeReady.cls ≠ "java/lang/invoke/MethodHandle" ∧ yX1_canBeReady.cls ≠ "java/lang/invoke/VarHandle" ∧ (parseMethodDescriptor yX1_canBeReady.desc).map (fun d => d.parameters.length) = some 0 := by decide +kernel
theorem X1_canBeReady_z (rph : AR) (rgr : AR) (rca : AR) (rne : AR) (rap : AR) (rle : AR) (rti : Int32) (n : Nat) : ∀ (j k : Nat) (is_ : Int32), (is_ = 0 ∨ is_ = 1) → (X1_canBeReady_L9 rph rgr rca rne rap rle rti n j k is_ = 0 ∨ X1_canBeReady_L9 rph rgr rca rne rap rle rti n j k is_ = 1) := by
  intro j
  induction j with
  | zero => intro k is_ h; rw [X1_canBeReady_L9]; exact h
  | succ j ih =>
    intro k is_ h
    have h1 : is_ &&& 1 = 0 ∨ is_ &&& 1 = 1 := by rcases h with e | e <;> rw [e] <;> decide
    have h0 : is_ &&& 0 = 0 ∨ is_ &&& 0 = 1 := by rcases h with e | e <;> rw [e] <;> decide
    rw [X1_canBeReady_L9]
    repeat' split
    all_goals first | exact ih _ _ h1 | exact ih _ _ h0
set_option maxHeartbeats 4000000 in
set_option maxRecDepth 100000 in
theorem c_X1_canBeReady (l : Launch) (dC : Nat → ClassId) (dI : Nat → Nat → Nat) (cI cZ : ClassId) (h : Nat) (a : Nat → Nat) (rpt : Int32) (rph : AR) (rgr : AR) (rca : AR) (rne : AR) (rap : AR) (rle : AR) (rfu : AR) (rba : Int32) (rru : Int32) (rti : Int32) (rtk : Int32) (rsv : Int32) (rgi : AR) (rpa : AR) (rth : Int32) (n : Nat) (hpc : rpt = nI n) (hn : n ≤ 8) (hI : mI rgr rca rap n) : Ki l yX1_canBeReady wsX1_canBeReady rmX1_canBeReady dC dI cI cZ [.ref h] (mW cI cZ h a rpt rph rgr rca rne rap rle rfu rba rru rti rtk rsv rgi rpa rth) (mW cI cZ h a rpt rph rgr rca rne rap rle rfu rba rru rti rtk rsv rgi rpa ((X1_canBeReady rph rgr rca rne rap rle rti n).2)) (X1_canBeReady rph rgr rca rne rap rle rti n).1 := by
  refine k_enter_i (cc := cX1_canBeReady) (maxL := 3) (ret := some .boolean) (by decide) rfl (Nat.le_of_ble_eq_true rfl) ?_
  intro p e s m below meth c A ls hC hr hlocks hK hP hD hS hA hl
  generalize List.toArray _ = args at hC ⊢
  obtain ⟨hx, hb, hml, hown, hts⟩ := id hC
  have hret : ∀ (H : Heap) (locs : List Loc) (pc : Nat) (ls : Array Slot) (r : Int32), va_S A s.heap H locs → va_P (dC, dI) vwCl (mW cI cZ h a rpt rph rgr rca rne rap rle rfu rba rru rti rtk rsv rgi rpa ((X1_canBeReady rph rgr rca rne rap rle rti n).2)) H → va_D A (mW cI cZ h a rpt rph rgr rca rne rap rle rfu rba rru rti rtk rsv rgi rpa ((X1_canBeReady rph rgr rca rne rap rle rti n).2)) → r = (X1_canBeReady rph rgr rca rne rap rle rti n).1 → (r = 0 ∨ r = 1) → decode cX1_canBeReady pc = .ok (.ireturn, 1) → W p l e rmX1_canBeReady s m args below meth c H locs 0 0 (MQ below (va_Qi (fun r (_ : Unit) => r = (X1_canBeReady rph rgr rca rne rap rle rti n).1) (kBeh dC dI A (mW cI cZ h a rpt rph rgr rca rne rap rle rfu rba rru rti rtk rsv rgi rpa ((X1_canBeReady rph rgr rca rne rap rle rti n).2))) A) args s 0 0 A) (F0 m pc ls [.int r]) := fun H locs pc ls r hS hP hD hv hz d => k_zret hx hb hr hlocks hS hP hD hv hz d
  generalize MQ below _ _ _ _ _ _ = Q at hret ⊢
  have hin : ∀ w ∈ wsX10, w ∈ wsX1_canBeReady := by decide +kernel
  have hw0 := hts (.fieldLink RX1 42 "ChargeParkModel" "thrown" "I") (by decide +kernel)
  have hw1 := hts (.fieldLink RX1 49 "ChargeParkModel" "points" "I") (by decide +kernel)
  have hw2 := hts (.fieldLink RX1 16 "ChargeParkModel" "car" "[Z") (by decide +kernel)
  have hw3 := hts (.fieldLink RX1 20 "ChargeParkModel" "need" "[I") (by decide +kernel)
  have hl : lv_has ls 3 [(0, .ref h)] := hl
  have hP : va_P (dC, dI) vwCl (mW cI cZ h a rpt rph rgr rca rne rap rle rfu rba rru rti rtk rsv rgi rpa rth) s.heap := hP
  have hW : ∀ (H : Heap) (locs : List Loc), va_P (dC, dI) vwCl (mW cI cZ h a rpt rph rgr rca rne rap rle rfu rba rru rti rtk rsv rgi rpa rth) H → va_D A (mW cI cZ h a rpt rph rgr rca rne rap rle rfu rba rru rti rtk rsv rgi rpa rth) → va_S A s.heap H locs → W p l e rmX1_canBeReady s m args below meth c H locs 0 0 Q (F0 m 0 ls []) := by
    intro H locs hP hD hS
    refine lv_aload_n hx hb dX1_canBeReady_0 rfl (lv_at hl 0 rfl) ?_
    refine lv_iconst (v := 0) hx hb dX1_canBeReady_1 (by decide) ?_
    refine va_put (D := (dC, dI)) (ci := 1) (v := .int 0) (ty := .int) (C := RX1) (T := TX1) (N := 16) hx hb hts hin tyX1 tyX1_ok nmX1 hown hK hP hD hS 0 rfl rfl 15 (by decide) hw0 (fun _ h9 => h9) rfl mfd15 rfl rfl (Nat.le_of_ble_eq_true rfl) dX1_canBeReady_2 (fun H locs hP hD hS => ?_)
    have hP : va_P (dC, dI) vwCl (mW cI cZ h a rpt rph rgr rca rne rap rle rfu rba rru rti rtk rsv rgi rpa 0) H := hP
    have hD : va_D A (mW cI cZ h a rpt rph rgr rca rne rap rle rfu rba rru rti rtk rsv rgi rpa 0) := hD
    refine lv_iconst (v := 1) hx hb dX1_canBeReady_5 (by decide) ?_
    refine lv_istore_n (lv' := [(1, .int 1), (0, .ref h)]) hx hb dX1_canBeReady_6 rfl hl (by decide) rfl (fun ls hl => ?_)
    refine lv_iconst (v := 0) hx hb dX1_canBeReady_7 (by decide) ?_
    refine lv_istore_n (lv' := [(2, .int 0), (1, .int 1), (0, .ref h)]) hx hb dX1_canBeReady_8 rfl hl (by decide) rfl (fun ls hl => ?_)
    have cont9 : ∀ (z1 : Int32), z1 = (X1_canBeReady_L9 rph rgr rca rne rap rle rti n  n 0 1) → ∀ (H : Heap) (locs : List Loc) (ls : Array Slot), va_P (dC, dI) vwCl (mW cI cZ h a rpt rph rgr rca rne rap rle rfu rba rru rti rtk rsv rgi rpa 0) H → va_D A (mW cI cZ h a rpt rph rgr rca rne rap rle rfu rba rru rti rtk rsv rgi rpa 0) → va_S A s.heap H locs → lv_has ls 3 [(0, .ref h), (1, .int z1)] → W p l e rmX1_canBeReady s m args below meth c H locs 0 0 Q (F0 m 57 ls []) := by
      intro z1 hz1 H locs ls hP hD hS hl
      refine lv_iload_n hx hb dX1_canBeReady_57 rfl (lv_at hl 1 rfl) ?_
      have hP9 := hP; have hD9 := hD
      subst hz1
      have hP8 : va_P (dC, dI) vwCl (mW cI cZ h a rpt rph rgr rca rne rap rle rfu rba rru rti rtk rsv rgi rpa ((X1_canBeReady rph rgr rca rne rap rle rti n).2)) H := by rw [X1_canBeReady]; exact hP9
      have hD8 : va_D A (mW cI cZ h a rpt rph rgr rca rne rap rle rfu rba rru rti rtk rsv rgi rpa ((X1_canBeReady rph rgr rca rne rap rle rti n).2)) := by rw [X1_canBeReady]; exact hD9
      exact hret H locs 58 ls ((X1_canBeReady_L9 rph rgr rca rne rap rle rti n  n 0 1)) hS hP8 hD8 (by rw [X1_canBeReady]) (X1_canBeReady_z rph rgr rca rne rap rle rti n n 0 1 (Or.inr rfl)) dX1_canBeReady_58
    have loop9 : ∀ (j k : Nat) (is_ : Int32), k + j = n → X1_canBeReady_L9 rph rgr rca rne rap rle rti n  j k is_ = (X1_canBeReady_L9 rph rgr rca rne rap rle rti n  n 0 1) → ∀ (H : Heap) (locs : List Loc) (ls : Array Slot), va_P (dC, dI) vwCl (mW cI cZ h a rpt rph rgr rca rne rap rle rfu rba rru rti rtk rsv rgi rpa 0) H → va_D A (mW cI cZ h a rpt rph rgr rca rne rap rle rfu rba rru rti rtk rsv rgi rpa 0) → va_S A s.heap H locs → lv_has ls 3 [(0, .ref h), (1, .int is_), (2, .int (nI k))] → W p l e rmX1_canBeReady s m args below meth c H locs 0 0 Q (F0 m 9 ls []) := by
      intro j
      induction j with
      | zero =>
        intro k is_ hk hR  H locs ls hP hD hS hl
        refine lv_iload_n hx hb dX1_canBeReady_9 rfl (lv_at hl 2 rfl) ?_
        refine lv_aload_n hx hb dX1_canBeReady_10 rfl (lv_at hl 0 rfl) ?_
        refine va_get (D := (dC, dI)) (ci := 1) (v := .int rpt) (C := RX1) (T := TX1) (N := 16) hx hb hts hin hown hK hP 0 rfl rfl 0 (by decide) hw1 (fun _ h9 => h9) rfl dX1_canBeReady_11 ?_
        refine lv_icmp_ge (tgt := 57) hx hb dX1_canBeReady_14 (by decide) (fun _ => ?_) (fun c => absurd (by rw [hpc]; exact nI_le (by omega) (by omega)) c)
        exact cont9 is_ (by rw [← hR, X1_canBeReady_L9]) H locs ls hP hD hS (lv_sub hl [0, 1] rfl)
      | succ j ih =>
        intro k is_ hk hR  H locs ls hP hD hS hl
        refine lv_iload_n hx hb dX1_canBeReady_9 rfl (lv_at hl 2 rfl) ?_
        refine lv_aload_n hx hb dX1_canBeReady_10 rfl (lv_at hl 0 rfl) ?_
        refine va_get (D := (dC, dI)) (ci := 1) (v := .int rpt) (C := RX1) (T := TX1) (N := 16) hx hb hts hin hown hK hP 0 rfl rfl 0 (by decide) hw1 (fun _ h9 => h9) rfl dX1_canBeReady_11 ?_
        refine lv_icmp_ge (tgt := 57) hx hb dX1_canBeReady_14 (by decide) (fun c => absurd c (by rw [hpc]; exact nI_ge (by omega) (by omega))) (fun _ => ?_)
        refine lv_iload_n hx hb dX1_canBeReady_17 rfl (lv_at hl 1 rfl) ?_
        refine lv_aload_n hx hb dX1_canBeReady_18 rfl (lv_at hl 0 rfl) ?_
        refine va_get (D := (dC, dI)) (ci := 1) (v := .ref (a 3)) (C := RX1) (T := TX1) (N := 16) hx hb hts hin hown hK hP 0 rfl rfl 3 (by decide) hw2 (fun _ h9 => h9) rfl dX1_canBeReady_19 ?_
        refine lv_iload_n hx hb dX1_canBeReady_22 rfl (lv_at hl 2 rfl) ?_
        refine va_zald (f := rca) hx hb hK hP 3 1 rfl rfl (vp_in_nI (by omega) (by decide)) dX1_canBeReady_23 ?_
        refine lv_if_eq (tgt := 44) hx hb dX1_canBeReady_24 (by decide) (fun c24 => ?_) (fun c24 => ?_)
        · refine lv_iconst (v := 1) hx hb dX1_canBeReady_44 (by decide) ?_
          refine lv_goto (tgt := 49) hx hb dX1_canBeReady_45 (by decide) ?_
          refine lv_iand hx hb dX1_canBeReady_49 ?_
          refine lv_istore_n (lv' := [(1, .int (is_ &&& 1)), (0, .ref h), (2, .int (nI k))]) hx hb dX1_canBeReady_50 rfl hl (by decide) rfl (fun ls hl => ?_)
          refine lv_iinc (v := (nI (k + 1))) (lv' := [(2, .int (nI (k + 1))), (1, .int (is_ &&& 1)), (0, .ref h)]) hx hb dX1_canBeReady_51 hl (k := 2) rfl (nI_1 k) (by decide) rfl (fun ls hl => ?_)
          refine lv_goto (tgt := 9) hx hb dX1_canBeReady_54 (by decide) ?_
          exact ih (k + 1) (is_ &&& 1) (by omega) (by rw [← hR, X1_canBeReady_L9, if_pos c24])  H locs ls hP hD hS (lv_sub hl [2, 1, 0] rfl)
        · refine lv_aload_n hx hb dX1_canBeReady_27 rfl (lv_at hl 0 rfl) ?_
          refine va_get (D := (dC, dI)) (ci := 1) (v := .ref (a 4)) (C := RX1) (T := TX1) (N := 16) hx hb hts hin hown hK hP 0 rfl rfl 4 (by decide) hw3 (fun _ h9 => h9) rfl dX1_canBeReady_28 ?_
          refine lv_iload_n hx hb dX1_canBeReady_31 rfl (lv_at hl 2 rfl) ?_
          refine va_iald (f := rne) hx hb hK hP 4 0 rfl rfl (vp_in_nI (by omega) (by decide)) dX1_canBeReady_32 ?_
          refine lv_if_eq (tgt := 44) hx hb dX1_canBeReady_33 (by decide) (fun c33 => ?_) (fun c33 => ?_)
          · refine lv_iconst (v := 1) hx hb dX1_canBeReady_44 (by decide) ?_
            refine lv_goto (tgt := 49) hx hb dX1_canBeReady_45 (by decide) ?_
            refine lv_iand hx hb dX1_canBeReady_49 ?_
            refine lv_istore_n (lv' := [(1, .int (is_ &&& 1)), (0, .ref h), (2, .int (nI k))]) hx hb dX1_canBeReady_50 rfl hl (by decide) rfl (fun ls hl => ?_)
            refine lv_iinc (v := (nI (k + 1))) (lv' := [(2, .int (nI (k + 1))), (1, .int (is_ &&& 1)), (0, .ref h)]) hx hb dX1_canBeReady_51 hl (k := 2) rfl (nI_1 k) (by decide) rfl (fun ls hl => ?_)
            refine lv_goto (tgt := 9) hx hb dX1_canBeReady_54 (by decide) ?_
            exact ih (k + 1) (is_ &&& 1) (by omega) (by rw [← hR, X1_canBeReady_L9, if_neg c24, if_pos c33])  H locs ls hP hD hS (lv_sub hl [2, 1, 0] rfl)
          · refine lv_aload_n hx hb dX1_canBeReady_36 rfl (lv_at hl 0 rfl) ?_
            refine lv_iload_n hx hb dX1_canBeReady_37 rfl (lv_at hl 2 rfl) ?_
            refine k_calli (rest := [.int is_]) (q0 := 0) hC (c_X1_lax l dC dI cI cZ h a rpt rph rgr rca rne rap rle rfu rba rru rti rtk rsv rgi rpa 0  (nI k) (vp_in_nI (by omega) (by decide)) (mI_nz hI (by omega) hn c24)) (cwV 1 hts gX1_canBeReady_X1_lax rfl rfl rfl hd_X1_lax ⟨Nat.le_of_ble_eq_true rfl, Nat.le_of_ble_eq_true rfl⟩) hK hP hD hS hA rfl rfl rfl hl.1 (Nat.le_of_ble_eq_true rfl) dX1_canBeReady_38 rfl ⟨Nat.zero_le _, Nat.zero_le _⟩ (fun H locs hP hD hS => ?_)
            refine lv_if_lt (tgt := 48) hx hb dX1_canBeReady_41 (by decide) (fun c41 => ?_) (fun c41 => ?_)
            · refine lv_iconst (v := 0) hx hb dX1_canBeReady_48 (by decide) ?_
              refine lv_iand hx hb dX1_canBeReady_49 ?_
              refine lv_istore_n (lv' := [(1, .int (is_ &&& 0)), (0, .ref h), (2, .int (nI k))]) hx hb dX1_canBeReady_50 rfl hl (by decide) rfl (fun ls hl => ?_)
              refine lv_iinc (v := (nI (k + 1))) (lv' := [(2, .int (nI (k + 1))), (1, .int (is_ &&& 0)), (0, .ref h)]) hx hb dX1_canBeReady_51 hl (k := 2) rfl (nI_1 k) (by decide) rfl (fun ls hl => ?_)
              refine lv_goto (tgt := 9) hx hb dX1_canBeReady_54 (by decide) ?_
              exact ih (k + 1) (is_ &&& 0) (by omega) (by rw [← hR, X1_canBeReady_L9, if_neg c24, if_neg c33, if_pos c41])  H locs ls hP hD hS (lv_sub hl [2, 1, 0] rfl)
            · refine lv_iconst (v := 1) hx hb dX1_canBeReady_44 (by decide) ?_
              refine lv_goto (tgt := 49) hx hb dX1_canBeReady_45 (by decide) ?_
              refine lv_iand hx hb dX1_canBeReady_49 ?_
              refine lv_istore_n (lv' := [(1, .int (is_ &&& 1)), (0, .ref h), (2, .int (nI k))]) hx hb dX1_canBeReady_50 rfl hl (by decide) rfl (fun ls hl => ?_)
              refine lv_iinc (v := (nI (k + 1))) (lv' := [(2, .int (nI (k + 1))), (1, .int (is_ &&& 1)), (0, .ref h)]) hx hb dX1_canBeReady_51 hl (k := 2) rfl (nI_1 k) (by decide) rfl (fun ls hl => ?_)
              refine lv_goto (tgt := 9) hx hb dX1_canBeReady_54 (by decide) ?_
              exact ih (k + 1) (is_ &&& 1) (by omega) (by rw [← hR, X1_canBeReady_L9, if_neg c24, if_neg c33, if_neg c41])  H locs ls hP hD hS (lv_sub hl [2, 1, 0] rfl)
    exact loop9 n 0 1 (by omega) rfl  H locs ls hP hD hS (lv_sub hl [2, 1, 0] rfl)
  exact hW _ _ hP hD hS
def X1_step_L42 (rph : AR) (rgr : AR) (rca : AR) (rap : AR) (rle : AR) (rfu : AR) (rba : Int32) (rru : Int32) (n : Nat) (i : Int32) (vne : AR) (vti : Int32) (vgi : AR) (vpa : AR) : Nat → Nat → Int32 → AR → Int32 × AR
  | 0, k2, bl, wne => (bl, wne)
  | j2 + 1, k2, bl, wne => (if (wne (nI k2).toNatClampNeg) ≤ ((((X1_shares rph rgr rca vne rap rle rfu rba rru vti vgi vpa n).1) (nI k2).toNatClampNeg) * (X1_times rph (nI k2))) then X1_step_L42 rph rgr rca rap rle rfu rba rru n i vne vti vgi vpa j2 (k2 + 1) (bl + (wne (nI k2).toNatClampNeg)) (upd wne (nI k2).toNatClampNeg ((wne (nI k2).toNatClampNeg) - (wne (nI k2).toNatClampNeg))) else X1_step_L42 rph rgr rca rap rle rfu rba rru n i vne vti vgi vpa j2 (k2 + 1) (bl + ((((X1_shares rph rgr rca vne rap rle rfu rba rru vti vgi vpa n).1) (nI k2).toNatClampNeg) * (X1_times rph (nI k2)))) (upd wne (nI k2).toNatClampNeg ((wne (nI k2).toNatClampNeg) - ((((X1_shares rph rgr rca vne rap rle rfu rba rru vti vgi vpa n).1) (nI k2).toNatClampNeg) * (X1_times rph (nI k2))))))
def X1_step_L23 (rph : AR) (rgr : AR) (rca : AR) (rap : AR) (rle : AR) (rfu : AR) (rba : Int32) (rru : Int32) (n : Nat) (i : Int32) : Nat → Nat → Int32 → AR → Int32 → AR → AR → Int32 × AR × Int32 × AR × AR
  | 0, k, al, vne, vti, vgi, vpa => (al, vne, vti, vgi, vpa)
  | j + 1, k, al, vne, vti, vgi, vpa => X1_step_L23 rph rgr rca rap rle rfu rba rru n i  j (k + 1) ((X1_step_L42 rph rgr rca rap rle rfu rba rru n i vne vti vgi vpa n 0 al vne).1) ((X1_step_L42 rph rgr rca rap rle rfu rba rru n i vne vti vgi vpa n 0 al vne).2) (vti + 1) ((X1_shares rph rgr rca vne rap rle rfu rba rru vti vgi vpa n).1) ((X1_shares rph rgr rca vne rap rle rfu rba rru vti vgi vpa n).2)
def X1_step (rph : AR) (rgr : AR) (rca : AR) (rne : AR) (rap : AR) (rle : AR) (rfu : AR) (rba : Int32) (rru : Int32) (rti : Int32) (rtk : Int32) (rgi : AR) (rpa : AR) (n : Nat) (i : Int32) : Int32 × AR × Int32 × Int32 × AR × AR × Int32 := (if (X1_isIn i 1 50) = 0 then (if i ≤ 0 then (0, rne, rti, (rtk + 0), rgi, rpa, 1) else (0, rne, rti, (rtk + 0), rgi, rpa, 1)) else (((X1_step_L23 rph rgr rca rap rle rfu rba rru n i  i.toNatClampNeg 0 0 rne rti rgi rpa).1), ((X1_step_L23 rph rgr rca rap rle rfu rba rru n i  i.toNatClampNeg 0 0 rne rti rgi rpa).2.1), ((X1_step_L23 rph rgr rca rap rle rfu rba rru n i  i.toNatClampNeg 0 0 rne rti rgi rpa).2.2.1), (rtk + ((X1_step_L23 rph rgr rca rap rle rfu rba rru n i  i.toNatClampNeg 0 0 rne rti rgi rpa).1)), ((X1_step_L23 rph rgr rca rap rle rfu rba rru n i  i.toNatClampNeg 0 0 rne rti rgi rpa).2.2.2.1), ((X1_step_L23 rph rgr rca rap rle rfu rba rru n i  i.toNatClampNeg 0 0 rne rti rgi rpa).2.2.2.2), 0))
abbrev rmX1_step : Room := { frames := 5, cells := 0, slots := 0, locals := 110 }
theorem hd_X1_step : yX1_step.cls = RX1 ∧ yX1_step.cls ≠ "java/lang/invoke/MethodHandle" ∧ yX1_step.cls ≠ "java/lang/invoke/VarHandle" ∧ (parseMethodDescriptor yX1_step.desc).map (fun d => d.parameters.length) = some 1 := by decide +kernel
set_option maxHeartbeats 4000000 in
set_option maxRecDepth 100000 in
theorem c_X1_step (l : Launch) (dC : Nat → ClassId) (dI : Nat → Nat → Nat) (cI cZ : ClassId) (h : Nat) (a : Nat → Nat) (rpt : Int32) (rph : AR) (rgr : AR) (rca : AR) (rne : AR) (rap : AR) (rle : AR) (rfu : AR) (rba : Int32) (rru : Int32) (rti : Int32) (rtk : Int32) (rsv : Int32) (rgi : AR) (rpa : AR) (rth : Int32) (n : Nat) (i : Int32) (hpc : rpt = nI n) (hn : n ≤ 8) (hI : mI rgr rca rap n) : Ki l yX1_step wsX1_step rmX1_step dC dI cI cZ [.ref h, .int i] (mW cI cZ h a rpt rph rgr rca rne rap rle rfu rba rru rti rtk rsv rgi rpa rth) (mW cI cZ h a rpt rph rgr rca ((X1_step rph rgr rca rne rap rle rfu rba rru rti rtk rgi rpa n i).2.1) rap rle rfu rba rru ((X1_step rph rgr rca rne rap rle rfu rba rru rti rtk rgi rpa n i).2.2.1) ((X1_step rph rgr rca rne rap rle rfu rba rru rti rtk rgi rpa n i).2.2.2.1) rsv ((X1_step rph rgr rca rne rap rle rfu rba rru rti rtk rgi rpa n i).2.2.2.2.1) ((X1_step rph rgr rca rne rap rle rfu rba rru rti rtk rgi rpa n i).2.2.2.2.2.1) ((X1_step rph rgr rca rne rap rle rfu rba rru rti rtk rgi rpa n i).2.2.2.2.2.2)) (X1_step rph rgr rca rne rap rle rfu rba rru rti rtk rgi rpa n i).1 := by
  refine k_enter_i (cc := cX1_step) (maxL := 6) (ret := some .int) (by decide) rfl (Nat.le_of_ble_eq_true rfl) ?_
  intro p e s m below meth c A ls hC hr hlocks hK hP hD hS hA hl
  generalize List.toArray _ = args at hC ⊢
  obtain ⟨hx, hb, hml, hown, hts⟩ := id hC
  have hret : ∀ (H : Heap) (locs : List Loc) (pc : Nat) (ls : Array Slot) (r : Int32), va_S A s.heap H locs → va_P (dC, dI) vwCl (mW cI cZ h a rpt rph rgr rca ((X1_step rph rgr rca rne rap rle rfu rba rru rti rtk rgi rpa n i).2.1) rap rle rfu rba rru ((X1_step rph rgr rca rne rap rle rfu rba rru rti rtk rgi rpa n i).2.2.1) ((X1_step rph rgr rca rne rap rle rfu rba rru rti rtk rgi rpa n i).2.2.2.1) rsv ((X1_step rph rgr rca rne rap rle rfu rba rru rti rtk rgi rpa n i).2.2.2.2.1) ((X1_step rph rgr rca rne rap rle rfu rba rru rti rtk rgi rpa n i).2.2.2.2.2.1) ((X1_step rph rgr rca rne rap rle rfu rba rru rti rtk rgi rpa n i).2.2.2.2.2.2)) H → va_D A (mW cI cZ h a rpt rph rgr rca ((X1_step rph rgr rca rne rap rle rfu rba rru rti rtk rgi rpa n i).2.1) rap rle rfu rba rru ((X1_step rph rgr rca rne rap rle rfu rba rru rti rtk rgi rpa n i).2.2.1) ((X1_step rph rgr rca rne rap rle rfu rba rru rti rtk rgi rpa n i).2.2.2.1) rsv ((X1_step rph rgr rca rne rap rle rfu rba rru rti rtk rgi rpa n i).2.2.2.2.1) ((X1_step rph rgr rca rne rap rle rfu rba rru rti rtk rgi rpa n i).2.2.2.2.2.1) ((X1_step rph rgr rca rne rap rle rfu rba rru rti rtk rgi rpa n i).2.2.2.2.2.2)) → r = (X1_step rph rgr rca rne rap rle rfu rba rru rti rtk rgi rpa n i).1 → decode cX1_step pc = .ok (.ireturn, 1) → W p l e rmX1_step s m args below meth c H locs 0 0 (MQ below (va_Qi (fun r (_ : Unit) => r = (X1_step rph rgr rca rne rap rle rfu rba rru rti rtk rgi rpa n i).1) (kBeh dC dI A (mW cI cZ h a rpt rph rgr rca ((X1_step rph rgr rca rne rap rle rfu rba rru rti rtk rgi rpa n i).2.1) rap rle rfu rba rru ((X1_step rph rgr rca rne rap rle rfu rba rru rti rtk rgi rpa n i).2.2.1) ((X1_step rph rgr rca rne rap rle rfu rba rru rti rtk rgi rpa n i).2.2.2.1) rsv ((X1_step rph rgr rca rne rap rle rfu rba rru rti rtk rgi rpa n i).2.2.2.2.1) ((X1_step rph rgr rca rne rap rle rfu rba rru rti rtk rgi rpa n i).2.2.2.2.2.1) ((X1_step rph rgr rca rne rap rle rfu rba rru rti rtk rgi rpa n i).2.2.2.2.2.2))) A) args s 0 0 A) (F0 m pc ls [.int r]) := fun H locs pc ls r hS hP hD hv d => k_iret hx hb hr hlocks hS hP hD hv d
  generalize MQ below _ _ _ _ _ _ = Q at hret ⊢
  have hin : ∀ w ∈ wsX10, w ∈ wsX1_step := by decide +kernel
  have hw0 := hts (.fieldLink RX1 42 "ChargeParkModel" "thrown" "I") (by decide +kernel)
  have hw1 := hts (.fieldLink RX1 113 "ChargeParkModel" "taken" "I") (by decide +kernel)
  have hw2 := hts (.fieldLink RX1 55 "ChargeParkModel" "time" "I") (by decide +kernel)
  have hw3 := hts (.fieldLink RX1 49 "ChargeParkModel" "points" "I") (by decide +kernel)
  have hw4 := hts (.fieldLink RX1 36 "ChargeParkModel" "given" "[I") (by decide +kernel)
  have hw5 := hts (.fieldLink RX1 20 "ChargeParkModel" "need" "[I") (by decide +kernel)
  have hl : lv_has ls 6 [(0, .ref h), (1, .int i)] := hl
  have hP : va_P (dC, dI) vwCl (mW cI cZ h a rpt rph rgr rca rne rap rle rfu rba rru rti rtk rsv rgi rpa rth) s.heap := hP
  have hW : ∀ (H : Heap) (locs : List Loc), va_P (dC, dI) vwCl (mW cI cZ h a rpt rph rgr rca rne rap rle rfu rba rru rti rtk rsv rgi rpa rth) H → va_D A (mW cI cZ h a rpt rph rgr rca rne rap rle rfu rba rru rti rtk rsv rgi rpa rth) → va_S A s.heap H locs → W p l e rmX1_step s m args below meth c H locs 0 0 Q (F0 m 0 ls []) := by
    intro H locs hP hD hS
    refine lv_aload_n hx hb dX1_step_0 rfl (lv_at hl 0 rfl) ?_
    refine lv_iload_n hx hb dX1_step_1 rfl (lv_at hl 1 rfl) ?_
    refine lv_iconst (v := 1) hx hb dX1_step_2 (by decide) ?_
    refine lv_bipush (v := 50) hx hb dX1_step_3 (by decide) ?_
    refine k_calls (rest := [.ref h]) (As := [.int i, .int 1, .int 50]) hC (c_X1_isIn l dC dI cI cZ (mW cI cZ h a rpt rph rgr rca rne rap rle rfu rba rru rti rtk rsv rgi rpa rth) i 1 50 ) (va_cwS 3 hts gX1_step_X1_isIn rfl rfl rfl hd_X1_isIn ⟨Nat.le_of_ble_eq_true rfl, Nat.le_of_ble_eq_true rfl⟩) hK hP hD hS hA rfl hl.1 (Nat.le_of_ble_eq_true rfl) dX1_step_5 rfl ⟨Nat.zero_le _, Nat.zero_le _⟩ (fun H locs hP hD hS => ?_)
    refine lv_if_eq (tgt := 15) hx hb dX1_step_8 (by decide) (fun c8 => ?_) (fun c8 => ?_)
    · refine lv_iconst (v := 1) hx hb dX1_step_15 (by decide) ?_
      refine va_put (D := (dC, dI)) (ci := 1) (v := .int 1) (ty := .int) (C := RX1) (T := TX1) (N := 16) hx hb hts hin tyX1 tyX1_ok nmX1 hown hK hP hD hS 0 rfl rfl 15 (by decide) hw0 (fun _ h9 => h9) rfl mfd15 rfl rfl (Nat.le_of_ble_eq_true rfl) dX1_step_16 (fun H locs hP hD hS => ?_)
      have hP : va_P (dC, dI) vwCl (mW cI cZ h a rpt rph rgr rca rne rap rle rfu rba rru rti rtk rsv rgi rpa 1) H := hP
      have hD : va_D A (mW cI cZ h a rpt rph rgr rca rne rap rle rfu rba rru rti rtk rsv rgi rpa 1) := hD
      refine lv_iconst (v := 0) hx hb dX1_step_19 (by decide) ?_
      refine lv_istore_n (lv' := [(2, .int 0), (0, .ref h), (1, .int i)]) hx hb dX1_step_20 rfl hl (by decide) rfl (fun ls hl => ?_)
      refine lv_iconst (v := 0) hx hb dX1_step_21 (by decide) ?_
      refine lv_istore_n (lv' := [(3, .int 0), (2, .int 0), (0, .ref h), (1, .int i)]) hx hb dX1_step_22 rfl hl (by decide) rfl (fun ls hl => ?_)
      refine lv_iload_n hx hb dX1_step_23 rfl (lv_at hl 0 rfl) ?_
      refine lv_iload_n hx hb dX1_step_24 rfl (lv_at hl 3 rfl) ?_
      refine lv_icmp_ge (tgt := 140) hx hb dX1_step_25 (by decide) (fun c25 => ?_) (fun c25 => ?_)
      · refine lv_aload_n hx hb dX1_step_140 rfl (lv_at hl 2 rfl) ?_
        refine lv_dup hx hb dX1_step_141 rfl ?_
        refine va_get (D := (dC, dI)) (ci := 1) (v := .int rtk) (C := RX1) (T := TX1) (N := 16) hx hb hts hin hown hK hP 0 rfl rfl 11 (by decide) hw1 (fun _ h9 => h9) rfl dX1_step_142 ?_
        refine lv_iload_n hx hb dX1_step_145 rfl (lv_at hl 1 rfl) ?_
        refine lv_iadd hx hb dX1_step_146 ?_
        refine va_put (D := (dC, dI)) (ci := 1) (v := .int (rtk + 0)) (ty := .int) (C := RX1) (T := TX1) (N := 16) hx hb hts hin tyX1 tyX1_ok nmX1 hown hK hP hD hS 0 rfl rfl 11 (by decide) hw1 (fun _ h9 => h9) rfl mfd11 rfl rfl (Nat.le_of_ble_eq_true rfl) dX1_step_147 (fun H locs hP hD hS => ?_)
        obtain ⟨z1, hz1⟩ : ∃ z : Int32, z = (rtk + 0) := ⟨_, rfl⟩
        rw [← hz1] at hP hD
        have hP : va_P (dC, dI) vwCl (mW cI cZ h a rpt rph rgr rca rne rap rle rfu rba rru rti z1 rsv rgi rpa 1) H := hP
        have hD : va_D A (mW cI cZ h a rpt rph rgr rca rne rap rle rfu rba rru rti z1 rsv rgi rpa 1) := hD
        refine lv_iload_n hx hb dX1_step_150 rfl (lv_at hl 1 rfl) ?_
        have hP9 := hP; have hD9 := hD
        subst hz1
        have hP8 : va_P (dC, dI) vwCl (mW cI cZ h a rpt rph rgr rca ((X1_step rph rgr rca rne rap rle rfu rba rru rti rtk rgi rpa n i).2.1) rap rle rfu rba rru ((X1_step rph rgr rca rne rap rle rfu rba rru rti rtk rgi rpa n i).2.2.1) ((X1_step rph rgr rca rne rap rle rfu rba rru rti rtk rgi rpa n i).2.2.2.1) rsv ((X1_step rph rgr rca rne rap rle rfu rba rru rti rtk rgi rpa n i).2.2.2.2.1) ((X1_step rph rgr rca rne rap rle rfu rba rru rti rtk rgi rpa n i).2.2.2.2.2.1) ((X1_step rph rgr rca rne rap rle rfu rba rru rti rtk rgi rpa n i).2.2.2.2.2.2)) H := by rw [X1_step, if_pos c8, if_pos c25]; exact hP9
        have hD8 : va_D A (mW cI cZ h a rpt rph rgr rca ((X1_step rph rgr rca rne rap rle rfu rba rru rti rtk rgi rpa n i).2.1) rap rle rfu rba rru ((X1_step rph rgr rca rne rap rle rfu rba rru rti rtk rgi rpa n i).2.2.1) ((X1_step rph rgr rca rne rap rle rfu rba rru rti rtk rgi rpa n i).2.2.2.1) rsv ((X1_step rph rgr rca rne rap rle rfu rba rru rti rtk rgi rpa n i).2.2.2.2.1) ((X1_step rph rgr rca rne rap rle rfu rba rru rti rtk rgi rpa n i).2.2.2.2.2.1) ((X1_step rph rgr rca rne rap rle rfu rba rru rti rtk rgi rpa n i).2.2.2.2.2.2)) := by rw [X1_step, if_pos c8, if_pos c25]; exact hD9
        exact hret H locs 151 ls 0 hS hP8 hD8 (by rw [X1_step, if_pos c8, if_pos c25]) dX1_step_151
      · refine lv_aload_n hx hb dX1_step_28 rfl (lv_at hl 2 rfl) ?_
        refine va_get (D := (dC, dI)) (ci := 1) (v := .int 1) (C := RX1) (T := TX1) (N := 16) hx hb hts hin hown hK hP 0 rfl rfl 15 (by decide) hw0 (fun _ h9 => h9) rfl dX1_step_29 ?_
        refine lv_if_ne (tgt := 140) hx hb dX1_step_32 (by decide) (fun _ => ?_) (fun c => absurd c (by decide))
        refine lv_aload_n hx hb dX1_step_140 rfl (lv_at hl 2 rfl) ?_
        refine lv_dup hx hb dX1_step_141 rfl ?_
        refine va_get (D := (dC, dI)) (ci := 1) (v := .int rtk) (C := RX1) (T := TX1) (N := 16) hx hb hts hin hown hK hP 0 rfl rfl 11 (by decide) hw1 (fun _ h9 => h9) rfl dX1_step_142 ?_
        refine lv_iload_n hx hb dX1_step_145 rfl (lv_at hl 1 rfl) ?_
        refine lv_iadd hx hb dX1_step_146 ?_
        refine va_put (D := (dC, dI)) (ci := 1) (v := .int (rtk + 0)) (ty := .int) (C := RX1) (T := TX1) (N := 16) hx hb hts hin tyX1 tyX1_ok nmX1 hown hK hP hD hS 0 rfl rfl 11 (by decide) hw1 (fun _ h9 => h9) rfl mfd11 rfl rfl (Nat.le_of_ble_eq_true rfl) dX1_step_147 (fun H locs hP hD hS => ?_)
        obtain ⟨z2, hz2⟩ : ∃ z : Int32, z = (rtk + 0) := ⟨_, rfl⟩
        rw [← hz2] at hP hD
        have hP : va_P (dC, dI) vwCl (mW cI cZ h a rpt rph rgr rca rne rap rle rfu rba rru rti z2 rsv rgi rpa 1) H := hP
        have hD : va_D A (mW cI cZ h a rpt rph rgr rca rne rap rle rfu rba rru rti z2 rsv rgi rpa 1) := hD
        refine lv_iload_n hx hb dX1_step_150 rfl (lv_at hl 1 rfl) ?_
        have hP9 := hP; have hD9 := hD
        subst hz2
        have hP8 : va_P (dC, dI) vwCl (mW cI cZ h a rpt rph rgr rca ((X1_step rph rgr rca rne rap rle rfu rba rru rti rtk rgi rpa n i).2.1) rap rle rfu rba rru ((X1_step rph rgr rca rne rap rle rfu rba rru rti rtk rgi rpa n i).2.2.1) ((X1_step rph rgr rca rne rap rle rfu rba rru rti rtk rgi rpa n i).2.2.2.1) rsv ((X1_step rph rgr rca rne rap rle rfu rba rru rti rtk rgi rpa n i).2.2.2.2.1) ((X1_step rph rgr rca rne rap rle rfu rba rru rti rtk rgi rpa n i).2.2.2.2.2.1) ((X1_step rph rgr rca rne rap rle rfu rba rru rti rtk rgi rpa n i).2.2.2.2.2.2)) H := by rw [X1_step, if_pos c8, if_neg c25]; exact hP9
        have hD8 : va_D A (mW cI cZ h a rpt rph rgr rca ((X1_step rph rgr rca rne rap rle rfu rba rru rti rtk rgi rpa n i).2.1) rap rle rfu rba rru ((X1_step rph rgr rca rne rap rle rfu rba rru rti rtk rgi rpa n i).2.2.1) ((X1_step rph rgr rca rne rap rle rfu rba rru rti rtk rgi rpa n i).2.2.2.1) rsv ((X1_step rph rgr rca rne rap rle rfu rba rru rti rtk rgi rpa n i).2.2.2.2.1) ((X1_step rph rgr rca rne rap rle rfu rba rru rti rtk rgi rpa n i).2.2.2.2.2.1) ((X1_step rph rgr rca rne rap rle rfu rba rru rti rtk rgi rpa n i).2.2.2.2.2.2)) := by rw [X1_step, if_pos c8, if_neg c25]; exact hD9
        exact hret H locs 151 ls 0 hS hP8 hD8 (by rw [X1_step, if_pos c8, if_neg c25]) dX1_step_151
    · refine lv_iconst (v := 0) hx hb dX1_step_11 (by decide) ?_
      refine lv_goto (tgt := 16) hx hb dX1_step_12 (by decide) ?_
      refine va_put (D := (dC, dI)) (ci := 1) (v := .int 0) (ty := .int) (C := RX1) (T := TX1) (N := 16) hx hb hts hin tyX1 tyX1_ok nmX1 hown hK hP hD hS 0 rfl rfl 15 (by decide) hw0 (fun _ h9 => h9) rfl mfd15 rfl rfl (Nat.le_of_ble_eq_true rfl) dX1_step_16 (fun H locs hP hD hS => ?_)
      have hP : va_P (dC, dI) vwCl (mW cI cZ h a rpt rph rgr rca rne rap rle rfu rba rru rti rtk rsv rgi rpa 0) H := hP
      have hD : va_D A (mW cI cZ h a rpt rph rgr rca rne rap rle rfu rba rru rti rtk rsv rgi rpa 0) := hD
      refine lv_iconst (v := 0) hx hb dX1_step_19 (by decide) ?_
      refine lv_istore_n (lv' := [(2, .int 0), (0, .ref h), (1, .int i)]) hx hb dX1_step_20 rfl hl (by decide) rfl (fun ls hl => ?_)
      refine lv_iconst (v := 0) hx hb dX1_step_21 (by decide) ?_
      refine lv_istore_n (lv' := [(3, .int 0), (2, .int 0), (0, .ref h), (1, .int i)]) hx hb dX1_step_22 rfl hl (by decide) rfl (fun ls hl => ?_)
      have cont23 : ∀ (z3 : Int32), z3 = (X1_step_L23 rph rgr rca rap rle rfu rba rru n i  i.toNatClampNeg 0 0 rne rti rgi rpa).1 → ∀ (z4 : AR), z4 = (X1_step_L23 rph rgr rca rap rle rfu rba rru n i  i.toNatClampNeg 0 0 rne rti rgi rpa).2.1 → ∀ (z5 : Int32), z5 = (X1_step_L23 rph rgr rca rap rle rfu rba rru n i  i.toNatClampNeg 0 0 rne rti rgi rpa).2.2.1 → ∀ (z6 : AR), z6 = (X1_step_L23 rph rgr rca rap rle rfu rba rru n i  i.toNatClampNeg 0 0 rne rti rgi rpa).2.2.2.1 → ∀ (z7 : AR), z7 = (X1_step_L23 rph rgr rca rap rle rfu rba rru n i  i.toNatClampNeg 0 0 rne rti rgi rpa).2.2.2.2 → ∀ (H : Heap) (locs : List Loc) (ls : Array Slot), va_P (dC, dI) vwCl (mW cI cZ h a rpt rph rgr rca z4 rap rle rfu rba rru z5 rtk rsv z6 z7 0) H → va_D A (mW cI cZ h a rpt rph rgr rca z4 rap rle rfu rba rru z5 rtk rsv z6 z7 0) → va_S A s.heap H locs → lv_has ls 6 [(0, .ref h), (1, .int i), (2, .int z3)] → W p l e rmX1_step s m args below meth c H locs 0 0 Q (F0 m 140 ls []) := by
        intro z3 hz3 z4 hz4 z5 hz5 z6 hz6 z7 hz7 H locs ls hP hD hS hl
        refine lv_aload_n hx hb dX1_step_140 rfl (lv_at hl 0 rfl) ?_
        refine lv_dup hx hb dX1_step_141 rfl ?_
        refine va_get (D := (dC, dI)) (ci := 1) (v := .int rtk) (C := RX1) (T := TX1) (N := 16) hx hb hts hin hown hK hP 0 rfl rfl 11 (by decide) hw1 (fun _ h9 => h9) rfl dX1_step_142 ?_
        refine lv_iload_n hx hb dX1_step_145 rfl (lv_at hl 2 rfl) ?_
        refine lv_iadd hx hb dX1_step_146 ?_
        refine va_put (D := (dC, dI)) (ci := 1) (v := .int (rtk + z3)) (ty := .int) (C := RX1) (T := TX1) (N := 16) hx hb hts hin tyX1 tyX1_ok nmX1 hown hK hP hD hS 0 rfl rfl 11 (by decide) hw1 (fun _ h9 => h9) rfl mfd11 rfl rfl (Nat.le_of_ble_eq_true rfl) dX1_step_147 (fun H locs hP hD hS => ?_)
        obtain ⟨z8, hz8⟩ : ∃ z : Int32, z = (rtk + z3) := ⟨_, rfl⟩
        rw [← hz8] at hP hD
        have hP : va_P (dC, dI) vwCl (mW cI cZ h a rpt rph rgr rca z4 rap rle rfu rba rru z5 z8 rsv z6 z7 0) H := hP
        have hD : va_D A (mW cI cZ h a rpt rph rgr rca z4 rap rle rfu rba rru z5 z8 rsv z6 z7 0) := hD
        refine lv_iload_n hx hb dX1_step_150 rfl (lv_at hl 2 rfl) ?_
        have hP9 := hP; have hD9 := hD
        subst hz3 hz4 hz5 hz6 hz7 hz8
        have hP8 : va_P (dC, dI) vwCl (mW cI cZ h a rpt rph rgr rca ((X1_step rph rgr rca rne rap rle rfu rba rru rti rtk rgi rpa n i).2.1) rap rle rfu rba rru ((X1_step rph rgr rca rne rap rle rfu rba rru rti rtk rgi rpa n i).2.2.1) ((X1_step rph rgr rca rne rap rle rfu rba rru rti rtk rgi rpa n i).2.2.2.1) rsv ((X1_step rph rgr rca rne rap rle rfu rba rru rti rtk rgi rpa n i).2.2.2.2.1) ((X1_step rph rgr rca rne rap rle rfu rba rru rti rtk rgi rpa n i).2.2.2.2.2.1) ((X1_step rph rgr rca rne rap rle rfu rba rru rti rtk rgi rpa n i).2.2.2.2.2.2)) H := by rw [X1_step, if_neg c8]; exact hP9
        have hD8 : va_D A (mW cI cZ h a rpt rph rgr rca ((X1_step rph rgr rca rne rap rle rfu rba rru rti rtk rgi rpa n i).2.1) rap rle rfu rba rru ((X1_step rph rgr rca rne rap rle rfu rba rru rti rtk rgi rpa n i).2.2.1) ((X1_step rph rgr rca rne rap rle rfu rba rru rti rtk rgi rpa n i).2.2.2.1) rsv ((X1_step rph rgr rca rne rap rle rfu rba rru rti rtk rgi rpa n i).2.2.2.2.1) ((X1_step rph rgr rca rne rap rle rfu rba rru rti rtk rgi rpa n i).2.2.2.2.2.1) ((X1_step rph rgr rca rne rap rle rfu rba rru rti rtk rgi rpa n i).2.2.2.2.2.2)) := by rw [X1_step, if_neg c8]; exact hD9
        exact hret H locs 151 ls ((X1_step_L23 rph rgr rca rap rle rfu rba rru n i  i.toNatClampNeg 0 0 rne rti rgi rpa).1) hS hP8 hD8 (by rw [X1_step, if_neg c8]) dX1_step_151
      obtain ⟨hie, hi50⟩ := isIn_50 c8
      have loop23 : ∀ (j k : Nat) (al : Int32) (vne : AR) (vti : Int32) (vgi : AR) (vpa : AR), k + j = i.toNatClampNeg → X1_step_L23 rph rgr rca rap rle rfu rba rru n i  j k al vne vti vgi vpa = (X1_step_L23 rph rgr rca rap rle rfu rba rru n i  i.toNatClampNeg 0 0 rne rti rgi rpa) → ∀ (H : Heap) (locs : List Loc) (ls : Array Slot), va_P (dC, dI) vwCl (mW cI cZ h a rpt rph rgr rca vne rap rle rfu rba rru vti rtk rsv vgi vpa 0) H → va_D A (mW cI cZ h a rpt rph rgr rca vne rap rle rfu rba rru vti rtk rsv vgi vpa 0) → va_S A s.heap H locs → lv_has ls 6 [(0, .ref h), (1, .int i), (2, .int al), (3, .int (nI k))] → W p l e rmX1_step s m args below meth c H locs 0 0 Q (F0 m 23 ls []) := by
        intro j
        induction j with
        | zero =>
          intro k al vne vti vgi vpa hk hR  H locs ls hP hD hS hl
          refine lv_iload_n hx hb dX1_step_23 rfl (lv_at hl 3 rfl) ?_
          refine lv_iload_n hx hb dX1_step_24 rfl (lv_at hl 1 rfl) ?_
          refine lv_icmp_ge (tgt := 140) hx hb dX1_step_25 (by decide) (fun _ => ?_) (fun c => absurd (by rw [hie]; exact nI_le (by omega) (by omega)) c)
          exact cont23 al (by rw [← hR, X1_step_L23]) vne (by rw [← hR, X1_step_L23]) vti (by rw [← hR, X1_step_L23]) vgi (by rw [← hR, X1_step_L23]) vpa (by rw [← hR, X1_step_L23]) H locs ls hP hD hS (lv_sub hl [0, 1, 2] rfl)
        | succ j ih =>
          intro k al vne vti vgi vpa hk hR  H locs ls hP hD hS hl
          refine lv_iload_n hx hb dX1_step_23 rfl (lv_at hl 3 rfl) ?_
          refine lv_iload_n hx hb dX1_step_24 rfl (lv_at hl 1 rfl) ?_
          refine lv_icmp_ge (tgt := 140) hx hb dX1_step_25 (by decide) (fun c => absurd c (by rw [hie]; exact nI_ge (by omega) (by omega))) (fun _ => ?_)
          refine lv_aload_n hx hb dX1_step_28 rfl (lv_at hl 0 rfl) ?_
          refine va_get (D := (dC, dI)) (ci := 1) (v := .int 0) (C := RX1) (T := TX1) (N := 16) hx hb hts hin hown hK hP 0 rfl rfl 15 (by decide) hw0 (fun _ h9 => h9) rfl dX1_step_29 ?_
          refine lv_if_ne (tgt := 140) hx hb dX1_step_32 (by decide) (fun c => absurd (by decide) c) (fun _ => ?_)
          refine lv_aload_n hx hb dX1_step_35 rfl (lv_at hl 0 rfl) ?_
          refine k_callv (rest := []) (q0 := 0) hC (c_X1_shares l dC dI cI cZ h a rpt rph rgr rca vne rap rle rfu rba rru vti rtk rsv vgi vpa 0 n  hpc hn hI (X1_shares_T1 hn hI) (X1_shares_T2 hn hI) (X1_shares_T3 hn hI)) (cwV 0 hts gX1_step_X1_shares rfl rfl rfl hd_X1_shares ⟨Nat.le_of_ble_eq_true rfl, Nat.le_of_ble_eq_true rfl⟩) hK hP hD hS hA rfl rfl rfl hl.1 (Nat.le_of_ble_eq_true rfl) dX1_step_36 rfl ⟨Nat.zero_le _, Nat.zero_le _⟩ (fun H locs hP hD hS => ?_)
          obtain ⟨z9, hz9⟩ : ∃ z : AR, z = ((X1_shares rph rgr rca vne rap rle rfu rba rru vti vgi vpa n).1) := ⟨_, rfl⟩
          rw [← hz9] at hP hD
          obtain ⟨z10, hz10⟩ : ∃ z : AR, z = ((X1_shares rph rgr rca vne rap rle rfu rba rru vti vgi vpa n).2) := ⟨_, rfl⟩
          rw [← hz10] at hP hD
          have hP : va_P (dC, dI) vwCl (mW cI cZ h a rpt rph rgr rca vne rap rle rfu rba rru vti rtk rsv z9 z10 0) H := hP
          have hD : va_D A (mW cI cZ h a rpt rph rgr rca vne rap rle rfu rba rru vti rtk rsv z9 z10 0) := hD
          refine lv_iconst (v := 0) hx hb dX1_step_39 (by decide) ?_
          refine lv_istore (lv' := [(4, .int 0), (0, .ref h), (1, .int i), (2, .int al), (3, .int (nI k))]) hx hb dX1_step_40 hl (by decide) rfl (fun ls hl => ?_)
          have cont42 : ∀ (z11 : Int32), z11 = (X1_step_L42 rph rgr rca rap rle rfu rba rru n i vne vti vgi vpa n 0 al vne).1 → ∀ (z12 : AR), z12 = (X1_step_L42 rph rgr rca rap rle rfu rba rru n i vne vti vgi vpa n 0 al vne).2 → ∀ (H : Heap) (locs : List Loc) (ls : Array Slot), va_P (dC, dI) vwCl (mW cI cZ h a rpt rph rgr rca z12 rap rle rfu rba rru vti rtk rsv z9 z10 0) H → va_D A (mW cI cZ h a rpt rph rgr rca z12 rap rle rfu rba rru vti rtk rsv z9 z10 0) → va_S A s.heap H locs → lv_has ls 6 [(0, .ref h), (1, .int i), (3, .int (nI k)), (2, .int z11)] → W p l e rmX1_step s m args below meth c H locs 0 0 Q (F0 m 124 ls []) := by
            intro z11 hz11 z12 hz12 H locs ls hP hD hS hl
            refine lv_aload_n hx hb dX1_step_124 rfl (lv_at hl 0 rfl) ?_
            refine lv_dup hx hb dX1_step_125 rfl ?_
            refine va_get (D := (dC, dI)) (ci := 1) (v := .int vti) (C := RX1) (T := TX1) (N := 16) hx hb hts hin hown hK hP 0 rfl rfl 10 (by decide) hw2 (fun _ h9 => h9) rfl dX1_step_126 ?_
            refine lv_iconst (v := 1) hx hb dX1_step_129 (by decide) ?_
            refine lv_iadd hx hb dX1_step_130 ?_
            refine va_put (D := (dC, dI)) (ci := 1) (v := .int (vti + 1)) (ty := .int) (C := RX1) (T := TX1) (N := 16) hx hb hts hin tyX1 tyX1_ok nmX1 hown hK hP hD hS 0 rfl rfl 10 (by decide) hw2 (fun _ h9 => h9) rfl mfd10 rfl rfl (Nat.le_of_ble_eq_true rfl) dX1_step_131 (fun H locs hP hD hS => ?_)
            obtain ⟨z13, hz13⟩ : ∃ z : Int32, z = (vti + 1) := ⟨_, rfl⟩
            rw [← hz13] at hP hD
            have hP : va_P (dC, dI) vwCl (mW cI cZ h a rpt rph rgr rca z12 rap rle rfu rba rru z13 rtk rsv z9 z10 0) H := hP
            have hD : va_D A (mW cI cZ h a rpt rph rgr rca z12 rap rle rfu rba rru z13 rtk rsv z9 z10 0) := hD
            refine lv_iinc (v := (nI (k + 1))) (lv' := [(3, .int (nI (k + 1))), (0, .ref h), (1, .int i), (2, .int z11)]) hx hb dX1_step_134 hl (k := 2) rfl (nI_1 k) (by decide) rfl (fun ls hl => ?_)
            refine lv_goto (tgt := 23) hx hb dX1_step_137 (by decide) ?_
            have hP9 := hP; have hD9 := hD; have hl9 := hl; have hR9 := hR; have ih9 := ih
            subst hz9 hz10 hz11 hz12 hz13
            exact ih9 (k + 1) ((X1_step_L42 rph rgr rca rap rle rfu rba rru n i vne vti vgi vpa n 0 al vne).1) ((X1_step_L42 rph rgr rca rap rle rfu rba rru n i vne vti vgi vpa n 0 al vne).2) (vti + 1) ((X1_shares rph rgr rca vne rap rle rfu rba rru vti vgi vpa n).1) ((X1_shares rph rgr rca vne rap rle rfu rba rru vti vgi vpa n).2) (by omega) (by rw [← hR9, X1_step_L23])  H locs ls hP9 hD9 hS (lv_sub hl9 [1, 2, 3, 0] rfl)
          have loop42 : ∀ (j2 k2 : Nat) (bl : Int32) (wne : AR), k2 + j2 = n → X1_step_L42 rph rgr rca rap rle rfu rba rru n i vne vti vgi vpa j2 k2 bl wne = (X1_step_L42 rph rgr rca rap rle rfu rba rru n i vne vti vgi vpa n 0 al vne) → ∀ (H : Heap) (locs : List Loc) (ls : Array Slot), va_P (dC, dI) vwCl (mW cI cZ h a rpt rph rgr rca wne rap rle rfu rba rru vti rtk rsv z9 z10 0) H → va_D A (mW cI cZ h a rpt rph rgr rca wne rap rle rfu rba rru vti rtk rsv z9 z10 0) → va_S A s.heap H locs → lv_has ls 6 [(0, .ref h), (1, .int i), (2, .int bl), (3, .int (nI k)), (4, .int (nI k2))] → W p l e rmX1_step s m args below meth c H locs 0 0 Q (F0 m 42 ls []) := by
            intro j2
            induction j2 with
            | zero =>
              intro k2 bl wne hk hR  H locs ls hP hD hS hl
              refine lv_iload hx hb dX1_step_42 (lv_at hl 4 rfl) ?_
              refine lv_aload_n hx hb dX1_step_44 rfl (lv_at hl 0 rfl) ?_
              refine va_get (D := (dC, dI)) (ci := 1) (v := .int rpt) (C := RX1) (T := TX1) (N := 16) hx hb hts hin hown hK hP 0 rfl rfl 0 (by decide) hw3 (fun _ h9 => h9) rfl dX1_step_45 ?_
              refine lv_icmp_ge (tgt := 124) hx hb dX1_step_48 (by decide) (fun _ => ?_) (fun c => absurd (by rw [hpc]; exact nI_le (by omega) (by omega)) c)
              have hP9 := hP; have hD9 := hD; have hl9 := hl; have hR9 := hR
              subst hz9 hz10
              exact cont42 bl (by rw [← hR9, X1_step_L42]) wne (by rw [← hR9, X1_step_L42]) H locs ls hP9 hD9 hS (lv_sub hl9 [0, 1, 3, 2] rfl)
            | succ j2 ih =>
              intro k2 bl wne hk hR  H locs ls hP hD hS hl
              refine lv_iload hx hb dX1_step_42 (lv_at hl 4 rfl) ?_
              refine lv_aload_n hx hb dX1_step_44 rfl (lv_at hl 0 rfl) ?_
              refine va_get (D := (dC, dI)) (ci := 1) (v := .int rpt) (C := RX1) (T := TX1) (N := 16) hx hb hts hin hown hK hP 0 rfl rfl 0 (by decide) hw3 (fun _ h9 => h9) rfl dX1_step_45 ?_
              refine lv_icmp_ge (tgt := 124) hx hb dX1_step_48 (by decide) (fun c => absurd c (by rw [hpc]; exact nI_ge (by omega) (by omega))) (fun _ => ?_)
              refine lv_aload_n hx hb dX1_step_51 rfl (lv_at hl 0 rfl) ?_
              refine va_get (D := (dC, dI)) (ci := 1) (v := .ref (a 13)) (C := RX1) (T := TX1) (N := 16) hx hb hts hin hown hK hP 0 rfl rfl 13 (by decide) hw4 (fun _ h9 => h9) rfl dX1_step_52 ?_
              refine lv_iload hx hb dX1_step_55 (lv_at hl 4 rfl) ?_
              refine va_iald (f := z9) hx hb hK hP 8 0 rfl rfl (vp_in_nI (by omega) (by decide)) dX1_step_57 ?_
              refine lv_aload_n hx hb dX1_step_58 rfl (lv_at hl 0 rfl) ?_
              refine lv_iload hx hb dX1_step_59 (lv_at hl 4 rfl) ?_
              refine k_calli (rest := [.int (z9 (nI k2).toNatClampNeg)]) (q0 := 0) hC (c_X1_times l dC dI cI cZ h a rpt rph rgr rca wne rap rle rfu rba rru vti rtk rsv z9 z10 0  (nI k2) (vp_in_nI (by omega) (by decide))) (cwV 1 hts gX1_step_X1_times rfl rfl rfl hd_X1_times ⟨Nat.le_of_ble_eq_true rfl, Nat.le_of_ble_eq_true rfl⟩) hK hP hD hS hA rfl rfl rfl hl.1 (Nat.le_of_ble_eq_true rfl) dX1_step_61 rfl ⟨Nat.zero_le _, Nat.zero_le _⟩ (fun H locs hP hD hS => ?_)
              refine lv_imul hx hb dX1_step_64 ?_
              refine lv_aload_n hx hb dX1_step_65 rfl (lv_at hl 0 rfl) ?_
              refine va_get (D := (dC, dI)) (ci := 1) (v := .ref (a 4)) (C := RX1) (T := TX1) (N := 16) hx hb hts hin hown hK hP 0 rfl rfl 4 (by decide) hw5 (fun _ h9 => h9) rfl dX1_step_66 ?_
              refine lv_iload hx hb dX1_step_69 (lv_at hl 4 rfl) ?_
              refine va_iald (f := wne) hx hb hK hP 4 0 rfl rfl (vp_in_nI (by omega) (by decide)) dX1_step_71 ?_
              refine lv_icmp_ge (tgt := 92) hx hb dX1_step_72 (by decide) (fun c72 => ?_) (fun c72 => ?_)
              · refine lv_aload_n hx hb dX1_step_92 rfl (lv_at hl 0 rfl) ?_
                refine va_get (D := (dC, dI)) (ci := 1) (v := .ref (a 4)) (C := RX1) (T := TX1) (N := 16) hx hb hts hin hown hK hP 0 rfl rfl 4 (by decide) hw5 (fun _ h9 => h9) rfl dX1_step_93 ?_
                refine lv_iload hx hb dX1_step_96 (lv_at hl 4 rfl) ?_
                refine va_iald (f := wne) hx hb hK hP 4 0 rfl rfl (vp_in_nI (by omega) (by decide)) dX1_step_98 ?_
                refine lv_istore (lv' := [(5, .int (wne (nI k2).toNatClampNeg)), (0, .ref h), (1, .int i), (2, .int bl), (3, .int (nI k)), (4, .int (nI k2))]) hx hb dX1_step_99 hl (by decide) rfl (fun ls hl => ?_)
                refine lv_iload_n hx hb dX1_step_101 rfl (lv_at hl 3 rfl) ?_
                refine lv_iload hx hb dX1_step_102 (lv_at hl 0 rfl) ?_
                refine lv_iadd hx hb dX1_step_104 ?_
                refine lv_istore_n (lv' := [(2, .int (bl + (wne (nI k2).toNatClampNeg))), (5, .int (wne (nI k2).toNatClampNeg)), (0, .ref h), (1, .int i), (3, .int (nI k)), (4, .int (nI k2))]) hx hb dX1_step_105 rfl hl (by decide) rfl (fun ls hl => ?_)
                refine lv_aload_n hx hb dX1_step_106 rfl (lv_at hl 2 rfl) ?_
                refine va_get (D := (dC, dI)) (ci := 1) (v := .ref (a 4)) (C := RX1) (T := TX1) (N := 16) hx hb hts hin hown hK hP 0 rfl rfl 4 (by decide) hw5 (fun _ h9 => h9) rfl dX1_step_107 ?_
                refine lv_iload hx hb dX1_step_110 (lv_at hl 5 rfl) ?_
                refine lv_dup2_11 hx hb dX1_step_112 rfl rfl ?_
                refine va_iald (f := wne) hx hb hK hP 4 0 rfl rfl (vp_in_nI (by omega) (by decide)) dX1_step_113 ?_
                refine lv_iload hx hb dX1_step_114 (lv_at hl 1 rfl) ?_
                refine lv_isub hx hb dX1_step_116 ?_
                refine va_iast (f := wne) hx hb hK hP hD hS 4 0 rfl rfl (vp_in_nI (by omega) (by decide)) dX1_step_117 (fun H locs hP hD hS => ?_)
                obtain ⟨z14, hz14⟩ : ∃ z : AR, z = (upd wne (nI k2).toNatClampNeg ((wne (nI k2).toNatClampNeg) - (wne (nI k2).toNatClampNeg))) := ⟨_, rfl⟩
                rw [← hz14] at hP hD
                have hP : va_P (dC, dI) vwCl (mW cI cZ h a rpt rph rgr rca z14 rap rle rfu rba rru vti rtk rsv z9 z10 0) H := hP
                have hD : va_D A (mW cI cZ h a rpt rph rgr rca z14 rap rle rfu rba rru vti rtk rsv z9 z10 0) := hD
                refine lv_iinc (v := (nI (k2 + 1))) (lv' := [(4, .int (nI (k2 + 1))), (2, .int (bl + (wne (nI k2).toNatClampNeg))), (5, .int (wne (nI k2).toNatClampNeg)), (0, .ref h), (1, .int i), (3, .int (nI k))]) hx hb dX1_step_118 hl (k := 5) rfl (nI_1 k2) (by decide) rfl (fun ls hl => ?_)
                refine lv_goto (tgt := 42) hx hb dX1_step_121 (by decide) ?_
                have hP9 := hP; have hD9 := hD; have hl9 := hl; have hR9 := hR; have ih9 := ih
                subst hz9 hz10 hz14
                exact ih9 (k2 + 1) (bl + (wne (nI k2).toNatClampNeg)) (upd wne (nI k2).toNatClampNeg ((wne (nI k2).toNatClampNeg) - (wne (nI k2).toNatClampNeg))) (by omega) (by rw [← hR9, X1_step_L42, if_pos c72])  H locs ls hP9 hD9 hS (lv_sub hl9 [3, 4, 1, 5, 0] rfl)
              · refine lv_aload_n hx hb dX1_step_75 rfl (lv_at hl 0 rfl) ?_
                refine va_get (D := (dC, dI)) (ci := 1) (v := .ref (a 13)) (C := RX1) (T := TX1) (N := 16) hx hb hts hin hown hK hP 0 rfl rfl 13 (by decide) hw4 (fun _ h9 => h9) rfl dX1_step_76 ?_
                refine lv_iload hx hb dX1_step_79 (lv_at hl 4 rfl) ?_
                refine va_iald (f := z9) hx hb hK hP 8 0 rfl rfl (vp_in_nI (by omega) (by decide)) dX1_step_81 ?_
                refine lv_aload_n hx hb dX1_step_82 rfl (lv_at hl 0 rfl) ?_
                refine lv_iload hx hb dX1_step_83 (lv_at hl 4 rfl) ?_
                refine k_calli (rest := [.int (z9 (nI k2).toNatClampNeg)]) (q0 := 0) hC (c_X1_times l dC dI cI cZ h a rpt rph rgr rca wne rap rle rfu rba rru vti rtk rsv z9 z10 0  (nI k2) (vp_in_nI (by omega) (by decide))) (cwV 1 hts gX1_step_X1_times rfl rfl rfl hd_X1_times ⟨Nat.le_of_ble_eq_true rfl, Nat.le_of_ble_eq_true rfl⟩) hK hP hD hS hA rfl rfl rfl hl.1 (Nat.le_of_ble_eq_true rfl) dX1_step_85 rfl ⟨Nat.zero_le _, Nat.zero_le _⟩ (fun H locs hP hD hS => ?_)
                refine lv_imul hx hb dX1_step_88 ?_
                refine lv_goto (tgt := 99) hx hb dX1_step_89 (by decide) ?_
                refine lv_istore (lv' := [(5, .int ((z9 (nI k2).toNatClampNeg) * (X1_times rph (nI k2)))), (0, .ref h), (1, .int i), (2, .int bl), (3, .int (nI k)), (4, .int (nI k2))]) hx hb dX1_step_99 hl (by decide) rfl (fun ls hl => ?_)
                refine lv_iload_n hx hb dX1_step_101 rfl (lv_at hl 3 rfl) ?_
                refine lv_iload hx hb dX1_step_102 (lv_at hl 0 rfl) ?_
                refine lv_iadd hx hb dX1_step_104 ?_
                refine lv_istore_n (lv' := [(2, .int (bl + ((z9 (nI k2).toNatClampNeg) * (X1_times rph (nI k2))))), (5, .int ((z9 (nI k2).toNatClampNeg) * (X1_times rph (nI k2)))), (0, .ref h), (1, .int i), (3, .int (nI k)), (4, .int (nI k2))]) hx hb dX1_step_105 rfl hl (by decide) rfl (fun ls hl => ?_)
                refine lv_aload_n hx hb dX1_step_106 rfl (lv_at hl 2 rfl) ?_
                refine va_get (D := (dC, dI)) (ci := 1) (v := .ref (a 4)) (C := RX1) (T := TX1) (N := 16) hx hb hts hin hown hK hP 0 rfl rfl 4 (by decide) hw5 (fun _ h9 => h9) rfl dX1_step_107 ?_
                refine lv_iload hx hb dX1_step_110 (lv_at hl 5 rfl) ?_
                refine lv_dup2_11 hx hb dX1_step_112 rfl rfl ?_
                refine va_iald (f := wne) hx hb hK hP 4 0 rfl rfl (vp_in_nI (by omega) (by decide)) dX1_step_113 ?_
                refine lv_iload hx hb dX1_step_114 (lv_at hl 1 rfl) ?_
                refine lv_isub hx hb dX1_step_116 ?_
                refine va_iast (f := wne) hx hb hK hP hD hS 4 0 rfl rfl (vp_in_nI (by omega) (by decide)) dX1_step_117 (fun H locs hP hD hS => ?_)
                obtain ⟨z15, hz15⟩ : ∃ z : AR, z = (upd wne (nI k2).toNatClampNeg ((wne (nI k2).toNatClampNeg) - ((z9 (nI k2).toNatClampNeg) * (X1_times rph (nI k2))))) := ⟨_, rfl⟩
                rw [← hz15] at hP hD
                have hP : va_P (dC, dI) vwCl (mW cI cZ h a rpt rph rgr rca z15 rap rle rfu rba rru vti rtk rsv z9 z10 0) H := hP
                have hD : va_D A (mW cI cZ h a rpt rph rgr rca z15 rap rle rfu rba rru vti rtk rsv z9 z10 0) := hD
                refine lv_iinc (v := (nI (k2 + 1))) (lv' := [(4, .int (nI (k2 + 1))), (2, .int (bl + ((z9 (nI k2).toNatClampNeg) * (X1_times rph (nI k2))))), (5, .int ((z9 (nI k2).toNatClampNeg) * (X1_times rph (nI k2)))), (0, .ref h), (1, .int i), (3, .int (nI k))]) hx hb dX1_step_118 hl (k := 5) rfl (nI_1 k2) (by decide) rfl (fun ls hl => ?_)
                refine lv_goto (tgt := 42) hx hb dX1_step_121 (by decide) ?_
                have hP9 := hP; have hD9 := hD; have hl9 := hl; have hR9 := hR; have ih9 := ih
                subst hz9 hz10 hz15
                exact ih9 (k2 + 1) (bl + ((((X1_shares rph rgr rca vne rap rle rfu rba rru vti vgi vpa n).1) (nI k2).toNatClampNeg) * (X1_times rph (nI k2)))) (upd wne (nI k2).toNatClampNeg ((wne (nI k2).toNatClampNeg) - ((((X1_shares rph rgr rca vne rap rle rfu rba rru vti vgi vpa n).1) (nI k2).toNatClampNeg) * (X1_times rph (nI k2))))) (by omega) (by rw [← hR9, X1_step_L42, if_neg c72])  H locs ls hP9 hD9 hS (lv_sub hl9 [3, 4, 1, 5, 0] rfl)
          exact loop42 n 0 al vne (by omega) rfl  H locs ls hP hD hS (lv_sub hl [1, 2, 3, 4, 0] rfl)
      exact loop23 i.toNatClampNeg 0 0 rne rti rgi rpa (by omega) rfl  H locs ls hP hD hS (lv_sub hl [2, 3, 1, 0] rfl)
  exact hW _ _ hP hD hS
def X1_fairLevel_L160 (rph : AR) (rgr : AR) (rca : AR) (rne : AR) (rap : AR) (rle : AR) (rti : Int32) (n : Nat) (f : Int32) (k : Nat) : Nat → Nat → Int32 → Int32 → Int32 × Int32
  | 0, k2, lh, mh => (lh, mh)
  | j2 + 1, k2, lh, mh => (if (rph (nI k2).toNatClampNeg) = f then (if (X1_reaches rph rgr rca rne rap rle rti (nI k2)) = (nI k) then (if lh < ((nI k) * mh) then X1_fairLevel_L160 rph rgr rca rne rap rle rti n f k j2 (k2 + 1) lh mh else X1_fairLevel_L160 rph rgr rca rne rap rle rti n f k j2 (k2 + 1) (lh - (nI k)) (mh + (-1))) else X1_fairLevel_L160 rph rgr rca rne rap rle rti n f k j2 (k2 + 1) lh mh) else X1_fairLevel_L160 rph rgr rca rne rap rle rti n f k j2 (k2 + 1) lh mh)
def X1_fairLevel_L150 (rph : AR) (rgr : AR) (rca : AR) (rne : AR) (rap : AR) (rle : AR) (rti : Int32) (n : Nat) (f : Int32) : Nat → Nat → Int32 → Int32 → Int32 × Int32
  | 0, k, lg, mg => (lg, mg)
  | j + 1, k, lg, mg => X1_fairLevel_L150 rph rgr rca rne rap rle rti n f  j (k + 1) ((X1_fairLevel_L160 rph rgr rca rne rap rle rti n f k n 0 lg mg).1) ((X1_fairLevel_L160 rph rgr rca rne rap rle rti n f k n 0 lg mg).2)
def X1_fairLevel_L46 (rph : AR) (rgr : AR) (rca : AR) (rne : AR) (rap : AR) (rle : AR) (rfu : AR) (rba : Int32) (rru : Int32) (rti : Int32) (rgi : AR) (rpa : AR) (n : Nat) (f : Int32) : Nat → Nat → Int32 → Int32 → Int32 → Int32 × Int32 × Int32
  | 0, k, lf, wn, mn => (lf, wn, mn)
  | j + 1, k, lf, wn, mn => (if (rph (nI k).toNatClampNeg) = 3 then (if (rph (nI k).toNatClampNeg) = f then (if (X1_reaches rph rgr rca rne rap rle rti (nI k)) ≤ 0 then X1_fairLevel_L46 rph rgr rca rne rap rle rfu rba rru rti rgi rpa n f  j (k + 1) (lf - (((X1_shares rph rgr rca rne rap rle rfu rba rru rti rgi rpa n).1) (nI k).toNatClampNeg)) (wn + (X1_reaches rph rgr rca rne rap rle rti (nI k))) (mn + 0) else X1_fairLevel_L46 rph rgr rca rne rap rle rfu rba rru rti rgi rpa n f  j (k + 1) (lf - (((X1_shares rph rgr rca rne rap rle rfu rba rru rti rgi rpa n).1) (nI k).toNatClampNeg)) (wn + (X1_reaches rph rgr rca rne rap rle rti (nI k))) (mn + 1)) else X1_fairLevel_L46 rph rgr rca rne rap rle rfu rba rru rti rgi rpa n f  j (k + 1) (lf - (((X1_shares rph rgr rca rne rap rle rfu rba rru rti rgi rpa n).1) (nI k).toNatClampNeg)) (wn + 0) (mn + 0)) else (if (rph (nI k).toNatClampNeg) = f then (if (X1_reaches rph rgr rca rne rap rle rti (nI k)) ≤ 0 then X1_fairLevel_L46 rph rgr rca rne rap rle rfu rba rru rti rgi rpa n f  j (k + 1) (lf - 0) (wn + (X1_reaches rph rgr rca rne rap rle rti (nI k))) (mn + 0) else X1_fairLevel_L46 rph rgr rca rne rap rle rfu rba rru rti rgi rpa n f  j (k + 1) (lf - 0) (wn + (X1_reaches rph rgr rca rne rap rle rti (nI k))) (mn + 1)) else X1_fairLevel_L46 rph rgr rca rne rap rle rfu rba rru rti rgi rpa n f  j (k + 1) (lf - 0) (wn + 0) (mn + 0)))
def X1_fairLevel (rph : AR) (rgr : AR) (rca : AR) (rne : AR) (rap : AR) (rle : AR) (rfu : AR) (rba : Int32) (rru : Int32) (rti : Int32) (rgi : AR) (rpa : AR) (n : Nat) (f : Int32) : Int32 × AR × AR × Int32 := (if (X1_isIn f 0 2) = 0 then (0, rgi, rpa, 1) else (if ((X1_fairLevel_L46 rph rgr rca rne rap rle rfu rba rru rti rgi rpa n f  n 0 (rfu f.toNatClampNeg) 0 0).1) < ((X1_fairLevel_L46 rph rgr rca rne rap rle rfu rba rru rti rgi rpa n f  n 0 (rfu f.toNatClampNeg) 0 0).2.1) then (((1000 * ((X1_fairLevel_L150 rph rgr rca rne rap rle rti n f  32 1 ((X1_fairLevel_L46 rph rgr rca rne rap rle rfu rba rru rti rgi rpa n f  n 0 (rfu f.toNatClampNeg) 0 0).1) ((X1_fairLevel_L46 rph rgr rca rne rap rle rfu rba rru rti rgi rpa n f  n 0 (rfu f.toNatClampNeg) 0 0).2.2)).1)) / ((X1_fairLevel_L150 rph rgr rca rne rap rle rti n f  32 1 ((X1_fairLevel_L46 rph rgr rca rne rap rle rfu rba rru rti rgi rpa n f  n 0 (rfu f.toNatClampNeg) 0 0).1) ((X1_fairLevel_L46 rph rgr rca rne rap rle rfu rba rru rti rgi rpa n f  n 0 (rfu f.toNatClampNeg) 0 0).2.2)).2)), ((X1_shares rph rgr rca rne rap rle rfu rba rru rti rgi rpa n).1), ((X1_shares rph rgr rca rne rap rle rfu rba rru rti rgi rpa n).2), 0) else ((-1), ((X1_shares rph rgr rca rne rap rle rfu rba rru rti rgi rpa n).1), ((X1_shares rph rgr rca rne rap rle rfu rba rru rti rgi rpa n).2), 0)))
abbrev rmX1_fairLevel : Room := { frames := 5, cells := 0, slots := 0, locals := 110 }
theorem hd_X1_fairLevel : yX1_fairLevel.cls = RX1 ∧ yX1_fairLevel.cls ≠ "java/lang/invoke/MethodHandle" ∧ yX1_fairLevel.cls ≠ "java/lang/invoke/VarHandle" ∧ (parseMethodDescriptor yX1_fairLevel.desc).map (fun d => d.parameters.length) = some 1 := by decide +kernel
set_option maxHeartbeats 4000000 in
set_option maxRecDepth 100000 in
theorem c_X1_fairLevel (l : Launch) (dC : Nat → ClassId) (dI : Nat → Nat → Nat) (cI cZ : ClassId) (h : Nat) (a : Nat → Nat) (rpt : Int32) (rph : AR) (rgr : AR) (rca : AR) (rne : AR) (rap : AR) (rle : AR) (rfu : AR) (rba : Int32) (rru : Int32) (rti : Int32) (rtk : Int32) (rsv : Int32) (rgi : AR) (rpa : AR) (rth : Int32) (n : Nat) (f : Int32) (hpc : rpt = nI n) (hn : n ≤ 8) (hI : mI rgr rca rap n) (hm : ¬ X1_isIn f 0 2 = 0 → (X1_fairLevel_L46 rph rgr rca rne rap rle rfu rba rru rti rgi rpa n f n 0 (rfu f.toNatClampNeg) 0 0).1 < (X1_fairLevel_L46 rph rgr rca rne rap rle rfu rba rru rti rgi rpa n f n 0 (rfu f.toNatClampNeg) 0 0).2.1 → ¬ (X1_fairLevel_L150 rph rgr rca rne rap rle rti n f 32 1 (X1_fairLevel_L46 rph rgr rca rne rap rle rfu rba rru rti rgi rpa n f n 0 (rfu f.toNatClampNeg) 0 0).1 (X1_fairLevel_L46 rph rgr rca rne rap rle rfu rba rru rti rgi rpa n f n 0 (rfu f.toNatClampNeg) 0 0).2.2).2 = 0) : Ki l yX1_fairLevel wsX1_fairLevel rmX1_fairLevel dC dI cI cZ [.ref h, .int f] (mW cI cZ h a rpt rph rgr rca rne rap rle rfu rba rru rti rtk rsv rgi rpa rth) (mW cI cZ h a rpt rph rgr rca rne rap rle rfu rba rru rti rtk rsv ((X1_fairLevel rph rgr rca rne rap rle rfu rba rru rti rgi rpa n f).2.1) ((X1_fairLevel rph rgr rca rne rap rle rfu rba rru rti rgi rpa n f).2.2.1) ((X1_fairLevel rph rgr rca rne rap rle rfu rba rru rti rgi rpa n f).2.2.2)) (X1_fairLevel rph rgr rca rne rap rle rfu rba rru rti rgi rpa n f).1 := by
  refine k_enter_i (cc := cX1_fairLevel) (maxL := 7) (ret := some .int) (by decide) rfl (Nat.le_of_ble_eq_true rfl) ?_
  intro p e s m below meth c A ls hC hr hlocks hK hP hD hS hA hl
  generalize List.toArray _ = args at hC ⊢
  obtain ⟨hx, hb, hml, hown, hts⟩ := id hC
  have hret : ∀ (H : Heap) (locs : List Loc) (pc : Nat) (ls : Array Slot) (r : Int32), va_S A s.heap H locs → va_P (dC, dI) vwCl (mW cI cZ h a rpt rph rgr rca rne rap rle rfu rba rru rti rtk rsv ((X1_fairLevel rph rgr rca rne rap rle rfu rba rru rti rgi rpa n f).2.1) ((X1_fairLevel rph rgr rca rne rap rle rfu rba rru rti rgi rpa n f).2.2.1) ((X1_fairLevel rph rgr rca rne rap rle rfu rba rru rti rgi rpa n f).2.2.2)) H → va_D A (mW cI cZ h a rpt rph rgr rca rne rap rle rfu rba rru rti rtk rsv ((X1_fairLevel rph rgr rca rne rap rle rfu rba rru rti rgi rpa n f).2.1) ((X1_fairLevel rph rgr rca rne rap rle rfu rba rru rti rgi rpa n f).2.2.1) ((X1_fairLevel rph rgr rca rne rap rle rfu rba rru rti rgi rpa n f).2.2.2)) → r = (X1_fairLevel rph rgr rca rne rap rle rfu rba rru rti rgi rpa n f).1 → decode cX1_fairLevel pc = .ok (.ireturn, 1) → W p l e rmX1_fairLevel s m args below meth c H locs 0 0 (MQ below (va_Qi (fun r (_ : Unit) => r = (X1_fairLevel rph rgr rca rne rap rle rfu rba rru rti rgi rpa n f).1) (kBeh dC dI A (mW cI cZ h a rpt rph rgr rca rne rap rle rfu rba rru rti rtk rsv ((X1_fairLevel rph rgr rca rne rap rle rfu rba rru rti rgi rpa n f).2.1) ((X1_fairLevel rph rgr rca rne rap rle rfu rba rru rti rgi rpa n f).2.2.1) ((X1_fairLevel rph rgr rca rne rap rle rfu rba rru rti rgi rpa n f).2.2.2))) A) args s 0 0 A) (F0 m pc ls [.int r]) := fun H locs pc ls r hS hP hD hv d => k_iret hx hb hr hlocks hS hP hD hv d
  generalize MQ below _ _ _ _ _ _ = Q at hret ⊢
  have hin : ∀ w ∈ wsX10, w ∈ wsX1_fairLevel := by decide +kernel
  have hw0 := hts (.fieldLink RX1 42 "ChargeParkModel" "thrown" "I") (by decide +kernel)
  have hw1 := hts (.fieldLink RX1 29 "ChargeParkModel" "fuse" "[I") (by decide +kernel)
  have hw2 := hts (.fieldLink RX1 49 "ChargeParkModel" "points" "I") (by decide +kernel)
  have hw3 := hts (.fieldLink RX1 7 "ChargeParkModel" "phase" "[I") (by decide +kernel)
  have hw4 := hts (.fieldLink RX1 36 "ChargeParkModel" "given" "[I") (by decide +kernel)
  have hl : lv_has ls 7 [(0, .ref h), (1, .int f)] := hl
  have hP : va_P (dC, dI) vwCl (mW cI cZ h a rpt rph rgr rca rne rap rle rfu rba rru rti rtk rsv rgi rpa rth) s.heap := hP
  have hW : ∀ (H : Heap) (locs : List Loc), va_P (dC, dI) vwCl (mW cI cZ h a rpt rph rgr rca rne rap rle rfu rba rru rti rtk rsv rgi rpa rth) H → va_D A (mW cI cZ h a rpt rph rgr rca rne rap rle rfu rba rru rti rtk rsv rgi rpa rth) → va_S A s.heap H locs → W p l e rmX1_fairLevel s m args below meth c H locs 0 0 Q (F0 m 0 ls []) := by
    intro H locs hP hD hS
    refine lv_aload_n hx hb dX1_fairLevel_0 rfl (lv_at hl 0 rfl) ?_
    refine lv_iload_n hx hb dX1_fairLevel_1 rfl (lv_at hl 1 rfl) ?_
    refine lv_iconst (v := 0) hx hb dX1_fairLevel_2 (by decide) ?_
    refine lv_iconst (v := 2) hx hb dX1_fairLevel_3 (by decide) ?_
    refine k_calls (rest := [.ref h]) (As := [.int f, .int 0, .int 2]) hC (c_X1_isIn l dC dI cI cZ (mW cI cZ h a rpt rph rgr rca rne rap rle rfu rba rru rti rtk rsv rgi rpa rth) f 0 2 ) (va_cwS 3 hts gX1_fairLevel_X1_isIn rfl rfl rfl hd_X1_isIn ⟨Nat.le_of_ble_eq_true rfl, Nat.le_of_ble_eq_true rfl⟩) hK hP hD hS hA rfl hl.1 (Nat.le_of_ble_eq_true rfl) dX1_fairLevel_4 rfl ⟨Nat.zero_le _, Nat.zero_le _⟩ (fun H locs hP hD hS => ?_)
    refine lv_if_eq (tgt := 14) hx hb dX1_fairLevel_7 (by decide) (fun c7 => ?_) (fun c7 => ?_)
    · refine lv_iconst (v := 1) hx hb dX1_fairLevel_14 (by decide) ?_
      refine va_put (D := (dC, dI)) (ci := 1) (v := .int 1) (ty := .int) (C := RX1) (T := TX1) (N := 16) hx hb hts hin tyX1 tyX1_ok nmX1 hown hK hP hD hS 0 rfl rfl 15 (by decide) hw0 (fun _ h9 => h9) rfl mfd15 rfl rfl (Nat.le_of_ble_eq_true rfl) dX1_fairLevel_15 (fun H locs hP hD hS => ?_)
      have hP : va_P (dC, dI) vwCl (mW cI cZ h a rpt rph rgr rca rne rap rle rfu rba rru rti rtk rsv rgi rpa 1) H := hP
      have hD : va_D A (mW cI cZ h a rpt rph rgr rca rne rap rle rfu rba rru rti rtk rsv rgi rpa 1) := hD
      refine lv_aload_n hx hb dX1_fairLevel_18 rfl (lv_at hl 0 rfl) ?_
      refine va_get (D := (dC, dI)) (ci := 1) (v := .int 1) (C := RX1) (T := TX1) (N := 16) hx hb hts hin hown hK hP 0 rfl rfl 15 (by decide) hw0 (fun _ h9 => h9) rfl dX1_fairLevel_19 ?_
      refine lv_if_le (tgt := 27) hx hb dX1_fairLevel_22 (by decide) (fun c => absurd c (by decide)) (fun _ => ?_)
      refine lv_iconst (v := 0) hx hb dX1_fairLevel_25 (by decide) ?_
      have hP8 : va_P (dC, dI) vwCl (mW cI cZ h a rpt rph rgr rca rne rap rle rfu rba rru rti rtk rsv ((X1_fairLevel rph rgr rca rne rap rle rfu rba rru rti rgi rpa n f).2.1) ((X1_fairLevel rph rgr rca rne rap rle rfu rba rru rti rgi rpa n f).2.2.1) ((X1_fairLevel rph rgr rca rne rap rle rfu rba rru rti rgi rpa n f).2.2.2)) H := by rw [X1_fairLevel, if_pos c7]; exact hP
      have hD8 : va_D A (mW cI cZ h a rpt rph rgr rca rne rap rle rfu rba rru rti rtk rsv ((X1_fairLevel rph rgr rca rne rap rle rfu rba rru rti rgi rpa n f).2.1) ((X1_fairLevel rph rgr rca rne rap rle rfu rba rru rti rgi rpa n f).2.2.1) ((X1_fairLevel rph rgr rca rne rap rle rfu rba rru rti rgi rpa n f).2.2.2)) := by rw [X1_fairLevel, if_pos c7]; exact hD
      exact hret H locs 26 ls 0 hS hP8 hD8 (by rw [X1_fairLevel, if_pos c7]) dX1_fairLevel_26
    · refine lv_iconst (v := 0) hx hb dX1_fairLevel_10 (by decide) ?_
      refine lv_goto (tgt := 15) hx hb dX1_fairLevel_11 (by decide) ?_
      refine va_put (D := (dC, dI)) (ci := 1) (v := .int 0) (ty := .int) (C := RX1) (T := TX1) (N := 16) hx hb hts hin tyX1 tyX1_ok nmX1 hown hK hP hD hS 0 rfl rfl 15 (by decide) hw0 (fun _ h9 => h9) rfl mfd15 rfl rfl (Nat.le_of_ble_eq_true rfl) dX1_fairLevel_15 (fun H locs hP hD hS => ?_)
      have hP : va_P (dC, dI) vwCl (mW cI cZ h a rpt rph rgr rca rne rap rle rfu rba rru rti rtk rsv rgi rpa 0) H := hP
      have hD : va_D A (mW cI cZ h a rpt rph rgr rca rne rap rle rfu rba rru rti rtk rsv rgi rpa 0) := hD
      refine lv_aload_n hx hb dX1_fairLevel_18 rfl (lv_at hl 0 rfl) ?_
      refine va_get (D := (dC, dI)) (ci := 1) (v := .int 0) (C := RX1) (T := TX1) (N := 16) hx hb hts hin hown hK hP 0 rfl rfl 15 (by decide) hw0 (fun _ h9 => h9) rfl dX1_fairLevel_19 ?_
      refine lv_if_le (tgt := 27) hx hb dX1_fairLevel_22 (by decide) (fun _ => ?_) (fun c => absurd (by decide) c)
      refine lv_aload_n hx hb dX1_fairLevel_27 rfl (lv_at hl 0 rfl) ?_
      refine k_callv (rest := []) (q0 := 0) hC (c_X1_shares l dC dI cI cZ h a rpt rph rgr rca rne rap rle rfu rba rru rti rtk rsv rgi rpa 0 n  hpc hn hI (X1_shares_T1 hn hI) (X1_shares_T2 hn hI) (X1_shares_T3 hn hI)) (cwV 0 hts gX1_fairLevel_X1_shares rfl rfl rfl hd_X1_shares ⟨Nat.le_of_ble_eq_true rfl, Nat.le_of_ble_eq_true rfl⟩) hK hP hD hS hA rfl rfl rfl hl.1 (Nat.le_of_ble_eq_true rfl) dX1_fairLevel_28 rfl ⟨Nat.zero_le _, Nat.zero_le _⟩ (fun H locs hP hD hS => ?_)
      obtain ⟨z1, hz1⟩ : ∃ z : AR, z = ((X1_shares rph rgr rca rne rap rle rfu rba rru rti rgi rpa n).1) := ⟨_, rfl⟩
      rw [← hz1] at hP hD
      obtain ⟨z2, hz2⟩ : ∃ z : AR, z = ((X1_shares rph rgr rca rne rap rle rfu rba rru rti rgi rpa n).2) := ⟨_, rfl⟩
      rw [← hz2] at hP hD
      have hP : va_P (dC, dI) vwCl (mW cI cZ h a rpt rph rgr rca rne rap rle rfu rba rru rti rtk rsv z1 z2 0) H := hP
      have hD : va_D A (mW cI cZ h a rpt rph rgr rca rne rap rle rfu rba rru rti rtk rsv z1 z2 0) := hD
      refine lv_aload_n hx hb dX1_fairLevel_31 rfl (lv_at hl 0 rfl) ?_
      refine va_get (D := (dC, dI)) (ci := 1) (v := .ref (a 7)) (C := RX1) (T := TX1) (N := 16) hx hb hts hin hown hK hP 0 rfl rfl 7 (by decide) hw1 (fun _ h9 => h9) rfl dX1_fairLevel_32 ?_
      refine lv_iload_n hx hb dX1_fairLevel_35 rfl (lv_at hl 1 rfl) ?_
      refine va_iald (f := rfu) hx hb hK hP 7 0 rfl rfl (isIn_3 c7) dX1_fairLevel_36 ?_
      refine lv_istore_n (lv' := [(2, .int (rfu f.toNatClampNeg)), (0, .ref h), (1, .int f)]) hx hb dX1_fairLevel_37 rfl hl (by decide) rfl (fun ls hl => ?_)
      refine lv_iconst (v := 0) hx hb dX1_fairLevel_38 (by decide) ?_
      refine lv_istore_n (lv' := [(3, .int 0), (2, .int (rfu f.toNatClampNeg)), (0, .ref h), (1, .int f)]) hx hb dX1_fairLevel_39 rfl hl (by decide) rfl (fun ls hl => ?_)
      refine lv_iconst (v := 0) hx hb dX1_fairLevel_40 (by decide) ?_
      refine lv_istore (lv' := [(4, .int 0), (3, .int 0), (2, .int (rfu f.toNatClampNeg)), (0, .ref h), (1, .int f)]) hx hb dX1_fairLevel_41 hl (by decide) rfl (fun ls hl => ?_)
      refine lv_iconst (v := 0) hx hb dX1_fairLevel_43 (by decide) ?_
      refine lv_istore (lv' := [(5, .int 0), (4, .int 0), (3, .int 0), (2, .int (rfu f.toNatClampNeg)), (0, .ref h), (1, .int f)]) hx hb dX1_fairLevel_44 hl (by decide) rfl (fun ls hl => ?_)
      have cont46 : ∀ (z3 : Int32), z3 = (X1_fairLevel_L46 rph rgr rca rne rap rle rfu rba rru rti rgi rpa n f  n 0 (rfu f.toNatClampNeg) 0 0).1 → ∀ (z4 : Int32), z4 = (X1_fairLevel_L46 rph rgr rca rne rap rle rfu rba rru rti rgi rpa n f  n 0 (rfu f.toNatClampNeg) 0 0).2.1 → ∀ (z5 : Int32), z5 = (X1_fairLevel_L46 rph rgr rca rne rap rle rfu rba rru rti rgi rpa n f  n 0 (rfu f.toNatClampNeg) 0 0).2.2 → ∀ (H : Heap) (locs : List Loc) (ls : Array Slot), va_P (dC, dI) vwCl (mW cI cZ h a rpt rph rgr rca rne rap rle rfu rba rru rti rtk rsv z1 z2 0) H → va_D A (mW cI cZ h a rpt rph rgr rca rne rap rle rfu rba rru rti rtk rsv z1 z2 0) → va_S A s.heap H locs → lv_has ls 7 [(0, .ref h), (1, .int f), (2, .int z3), (3, .int z4), (4, .int z5)] → W p l e rmX1_fairLevel s m args below meth c H locs 0 0 Q (F0 m 140 ls []) := by
        intro z3 hz3 z4 hz4 z5 hz5 H locs ls hP hD hS hl
        refine lv_iload_n hx hb dX1_fairLevel_140 rfl (lv_at hl 3 rfl) ?_
        refine lv_iload_n hx hb dX1_fairLevel_141 rfl (lv_at hl 2 rfl) ?_
        refine lv_icmp_gt (tgt := 147) hx hb dX1_fairLevel_142 (by decide) (fun c142 => ?_) (fun c142 => ?_)
        · refine lv_iconst (v := 1) hx hb dX1_fairLevel_147 (by decide) ?_
          refine lv_istore (lv' := [(5, .int 1), (0, .ref h), (1, .int f), (2, .int z3), (3, .int z4), (4, .int z5)]) hx hb dX1_fairLevel_148 hl (by decide) rfl (fun ls hl => ?_)
          have cont150 : ∀ (z6 : Int32), z6 = (X1_fairLevel_L150 rph rgr rca rne rap rle rti n f  32 1 z3 z5).1 → ∀ (z7 : Int32), z7 = (X1_fairLevel_L150 rph rgr rca rne rap rle rti n f  32 1 z3 z5).2 → ∀ (H : Heap) (locs : List Loc) (ls : Array Slot), va_P (dC, dI) vwCl (mW cI cZ h a rpt rph rgr rca rne rap rle rfu rba rru rti rtk rsv z1 z2 0) H → va_D A (mW cI cZ h a rpt rph rgr rca rne rap rle rfu rba rru rti rtk rsv z1 z2 0) → va_S A s.heap H locs → lv_has ls 7 [(0, .ref h), (1, .int f), (3, .int z4), (2, .int z6), (4, .int z7)] → W p l e rmX1_fairLevel s m args below meth c H locs 0 0 Q (F0 m 220 ls []) := by
            intro z6 hz6 z7 hz7 H locs ls hP hD hS hl
            refine lv_sipush (v := 1000) hx hb dX1_fairLevel_220 (by decide) ?_
            refine lv_iload_n hx hb dX1_fairLevel_223 rfl (lv_at hl 3 rfl) ?_
            refine lv_imul hx hb dX1_fairLevel_224 ?_
            refine lv_iload hx hb dX1_fairLevel_225 (lv_at hl 4 rfl) ?_
            refine lv_idiv hx hb dX1_fairLevel_227 (by subst hz1 hz2 hz3 hz4 hz5 hz6 hz7; exact hm c7 c142) ?_
            have hP9 := hP; have hD9 := hD
            subst hz1 hz2 hz3 hz4 hz5 hz6 hz7
            have hP8 : va_P (dC, dI) vwCl (mW cI cZ h a rpt rph rgr rca rne rap rle rfu rba rru rti rtk rsv ((X1_fairLevel rph rgr rca rne rap rle rfu rba rru rti rgi rpa n f).2.1) ((X1_fairLevel rph rgr rca rne rap rle rfu rba rru rti rgi rpa n f).2.2.1) ((X1_fairLevel rph rgr rca rne rap rle rfu rba rru rti rgi rpa n f).2.2.2)) H := by rw [X1_fairLevel, if_neg c7, if_pos c142]; exact hP9
            have hD8 : va_D A (mW cI cZ h a rpt rph rgr rca rne rap rle rfu rba rru rti rtk rsv ((X1_fairLevel rph rgr rca rne rap rle rfu rba rru rti rgi rpa n f).2.1) ((X1_fairLevel rph rgr rca rne rap rle rfu rba rru rti rgi rpa n f).2.2.1) ((X1_fairLevel rph rgr rca rne rap rle rfu rba rru rti rgi rpa n f).2.2.2)) := by rw [X1_fairLevel, if_neg c7, if_pos c142]; exact hD9
            exact hret H locs 228 ls ((1000 * ((X1_fairLevel_L150 rph rgr rca rne rap rle rti n f  32 1 ((X1_fairLevel_L46 rph rgr rca rne rap rle rfu rba rru rti rgi rpa n f  n 0 (rfu f.toNatClampNeg) 0 0).1) ((X1_fairLevel_L46 rph rgr rca rne rap rle rfu rba rru rti rgi rpa n f  n 0 (rfu f.toNatClampNeg) 0 0).2.2)).1)) / ((X1_fairLevel_L150 rph rgr rca rne rap rle rti n f  32 1 ((X1_fairLevel_L46 rph rgr rca rne rap rle rfu rba rru rti rgi rpa n f  n 0 (rfu f.toNatClampNeg) 0 0).1) ((X1_fairLevel_L46 rph rgr rca rne rap rle rfu rba rru rti rgi rpa n f  n 0 (rfu f.toNatClampNeg) 0 0).2.2)).2)) hS hP8 hD8 (by rw [X1_fairLevel, if_neg c7, if_pos c142]) dX1_fairLevel_228
          have loop150 : ∀ (j k : Nat) (lg : Int32) (mg : Int32), k + j = 33 → X1_fairLevel_L150 rph rgr rca rne rap rle rti n f  j k lg mg = (X1_fairLevel_L150 rph rgr rca rne rap rle rti n f  32 1 z3 z5) → ∀ (H : Heap) (locs : List Loc) (ls : Array Slot), va_P (dC, dI) vwCl (mW cI cZ h a rpt rph rgr rca rne rap rle rfu rba rru rti rtk rsv z1 z2 0) H → va_D A (mW cI cZ h a rpt rph rgr rca rne rap rle rfu rba rru rti rtk rsv z1 z2 0) → va_S A s.heap H locs → lv_has ls 7 [(0, .ref h), (1, .int f), (2, .int lg), (3, .int z4), (4, .int mg), (5, .int (nI k))] → W p l e rmX1_fairLevel s m args below meth c H locs 0 0 Q (F0 m 150 ls []) := by
            intro j
            induction j with
            | zero =>
              intro k lg mg hk hR  H locs ls hP hD hS hl
              refine lv_iload hx hb dX1_fairLevel_150 (lv_at hl 5 rfl) ?_
              refine lv_bipush (v := 32) hx hb dX1_fairLevel_152 (by decide) ?_
              refine lv_icmp_gt (tgt := 220) hx hb dX1_fairLevel_154 (by decide) (fun _ => ?_) (fun c => absurd (by rw [nIl32]; exact nI_lt (by omega) (by omega)) c)
              have hP9 := hP; have hD9 := hD; have hl9 := hl; have hR9 := hR
              subst hz1 hz2 hz3 hz4 hz5
              exact cont150 lg (by rw [← hR9, X1_fairLevel_L150]) mg (by rw [← hR9, X1_fairLevel_L150]) H locs ls hP9 hD9 hS (lv_sub hl9 [0, 1, 3, 2, 4] rfl)
            | succ j ih =>
              intro k lg mg hk hR  H locs ls hP hD hS hl
              refine lv_iload hx hb dX1_fairLevel_150 (lv_at hl 5 rfl) ?_
              refine lv_bipush (v := 32) hx hb dX1_fairLevel_152 (by decide) ?_
              refine lv_icmp_gt (tgt := 220) hx hb dX1_fairLevel_154 (by decide) (fun c => absurd c (by rw [nIl32]; exact nI_nlt (by omega) (by omega))) (fun _ => ?_)
              refine lv_iconst (v := 0) hx hb dX1_fairLevel_157 (by decide) ?_
              refine lv_istore (lv' := [(6, .int 0), (0, .ref h), (1, .int f), (2, .int lg), (3, .int z4), (4, .int mg), (5, .int (nI k))]) hx hb dX1_fairLevel_158 hl (by decide) rfl (fun ls hl => ?_)
              have cont160 : ∀ (z8 : Int32), z8 = (X1_fairLevel_L160 rph rgr rca rne rap rle rti n f k n 0 lg mg).1 → ∀ (z9 : Int32), z9 = (X1_fairLevel_L160 rph rgr rca rne rap rle rti n f k n 0 lg mg).2 → ∀ (H : Heap) (locs : List Loc) (ls : Array Slot), va_P (dC, dI) vwCl (mW cI cZ h a rpt rph rgr rca rne rap rle rfu rba rru rti rtk rsv z1 z2 0) H → va_D A (mW cI cZ h a rpt rph rgr rca rne rap rle rfu rba rru rti rtk rsv z1 z2 0) → va_S A s.heap H locs → lv_has ls 7 [(0, .ref h), (1, .int f), (3, .int z4), (5, .int (nI k)), (2, .int z8), (4, .int z9)] → W p l e rmX1_fairLevel s m args below meth c H locs 0 0 Q (F0 m 214 ls []) := by
                intro z8 hz8 z9 hz9 H locs ls hP hD hS hl
                refine lv_iinc (v := (nI (k + 1))) (lv' := [(5, .int (nI (k + 1))), (0, .ref h), (1, .int f), (3, .int z4), (2, .int z8), (4, .int z9)]) hx hb dX1_fairLevel_214 hl (k := 3) rfl (nI_1 k) (by decide) rfl (fun ls hl => ?_)
                refine lv_goto (tgt := 150) hx hb dX1_fairLevel_217 (by decide) ?_
                have hP9 := hP; have hD9 := hD; have hl9 := hl; have hR9 := hR; have ih9 := ih
                subst hz1 hz2 hz3 hz4 hz5 hz8 hz9
                exact ih9 (k + 1) ((X1_fairLevel_L160 rph rgr rca rne rap rle rti n f k n 0 lg mg).1) ((X1_fairLevel_L160 rph rgr rca rne rap rle rti n f k n 0 lg mg).2) (by omega) (by rw [← hR9, X1_fairLevel_L150])  H locs ls hP9 hD9 hS (lv_sub hl9 [1, 2, 4, 3, 5, 0] rfl)
              have loop160 : ∀ (j2 k2 : Nat) (lh : Int32) (mh : Int32), k2 + j2 = n → X1_fairLevel_L160 rph rgr rca rne rap rle rti n f k j2 k2 lh mh = (X1_fairLevel_L160 rph rgr rca rne rap rle rti n f k n 0 lg mg) → ∀ (H : Heap) (locs : List Loc) (ls : Array Slot), va_P (dC, dI) vwCl (mW cI cZ h a rpt rph rgr rca rne rap rle rfu rba rru rti rtk rsv z1 z2 0) H → va_D A (mW cI cZ h a rpt rph rgr rca rne rap rle rfu rba rru rti rtk rsv z1 z2 0) → va_S A s.heap H locs → lv_has ls 7 [(0, .ref h), (1, .int f), (2, .int lh), (3, .int z4), (4, .int mh), (5, .int (nI k)), (6, .int (nI k2))] → W p l e rmX1_fairLevel s m args below meth c H locs 0 0 Q (F0 m 160 ls []) := by
                intro j2
                induction j2 with
                | zero =>
                  intro k2 lh mh hk hR  H locs ls hP hD hS hl
                  refine lv_iload hx hb dX1_fairLevel_160 (lv_at hl 6 rfl) ?_
                  refine lv_aload_n hx hb dX1_fairLevel_162 rfl (lv_at hl 0 rfl) ?_
                  refine va_get (D := (dC, dI)) (ci := 1) (v := .int rpt) (C := RX1) (T := TX1) (N := 16) hx hb hts hin hown hK hP 0 rfl rfl 0 (by decide) hw2 (fun _ h9 => h9) rfl dX1_fairLevel_163 ?_
                  refine lv_icmp_ge (tgt := 214) hx hb dX1_fairLevel_166 (by decide) (fun _ => ?_) (fun c => absurd (by rw [hpc]; exact nI_le (by omega) (by omega)) c)
                  have hP9 := hP; have hD9 := hD; have hl9 := hl; have hR9 := hR
                  subst hz1 hz2 hz3 hz4 hz5
                  exact cont160 lh (by rw [← hR9, X1_fairLevel_L160]) mh (by rw [← hR9, X1_fairLevel_L160]) H locs ls hP9 hD9 hS (lv_sub hl9 [0, 1, 3, 5, 2, 4] rfl)
                | succ j2 ih =>
                  intro k2 lh mh hk hR  H locs ls hP hD hS hl
                  refine lv_iload hx hb dX1_fairLevel_160 (lv_at hl 6 rfl) ?_
                  refine lv_aload_n hx hb dX1_fairLevel_162 rfl (lv_at hl 0 rfl) ?_
                  refine va_get (D := (dC, dI)) (ci := 1) (v := .int rpt) (C := RX1) (T := TX1) (N := 16) hx hb hts hin hown hK hP 0 rfl rfl 0 (by decide) hw2 (fun _ h9 => h9) rfl dX1_fairLevel_163 ?_
                  refine lv_icmp_ge (tgt := 214) hx hb dX1_fairLevel_166 (by decide) (fun c => absurd c (by rw [hpc]; exact nI_ge (by omega) (by omega))) (fun _ => ?_)
                  refine lv_aload_n hx hb dX1_fairLevel_169 rfl (lv_at hl 0 rfl) ?_
                  refine va_get (D := (dC, dI)) (ci := 1) (v := .ref (a 1)) (C := RX1) (T := TX1) (N := 16) hx hb hts hin hown hK hP 0 rfl rfl 1 (by decide) hw3 (fun _ h9 => h9) rfl dX1_fairLevel_170 ?_
                  refine lv_iload hx hb dX1_fairLevel_173 (lv_at hl 6 rfl) ?_
                  refine va_iald (f := rph) hx hb hK hP 1 0 rfl rfl (vp_in_nI (by omega) (by decide)) dX1_fairLevel_175 ?_
                  refine lv_iload_n hx hb dX1_fairLevel_176 rfl (lv_at hl 1 rfl) ?_
                  refine lv_icmp_ne (tgt := 208) hx hb dX1_fairLevel_177 (by decide) (fun c177 => ?_) (fun c177 => ?_)
                  · refine lv_iinc (v := (nI (k2 + 1))) (lv' := [(6, .int (nI (k2 + 1))), (0, .ref h), (1, .int f), (2, .int lh), (3, .int z4), (4, .int mh), (5, .int (nI k))]) hx hb dX1_fairLevel_208 hl (k := 6) rfl (nI_1 k2) (by decide) rfl (fun ls hl => ?_)
                    refine lv_goto (tgt := 160) hx hb dX1_fairLevel_211 (by decide) ?_
                    have hP9 := hP; have hD9 := hD; have hl9 := hl; have hR9 := hR; have ih9 := ih
                    subst hz1 hz2 hz3 hz4 hz5
                    exact ih9 (k2 + 1) lh mh (by omega) (by rw [← hR9, X1_fairLevel_L160, if_neg c177])  H locs ls hP9 hD9 hS (lv_sub hl9 [1, 2, 3, 4, 5, 6, 0] rfl)
                  · refine lv_aload_n hx hb dX1_fairLevel_180 rfl (lv_at hl 0 rfl) ?_
                    refine lv_iload hx hb dX1_fairLevel_181 (lv_at hl 6 rfl) ?_
                    refine k_calli (rest := []) (q0 := 0) hC (c_X1_reaches l dC dI cI cZ h a rpt rph rgr rca rne rap rle rfu rba rru rti rtk rsv z1 z2 0  (nI k2) (vp_in_nI (by omega) (by decide))) (cwV 1 hts gX1_fairLevel_X1_reaches rfl rfl rfl hd_X1_reaches ⟨Nat.le_of_ble_eq_true rfl, Nat.le_of_ble_eq_true rfl⟩) hK hP hD hS hA rfl rfl rfl hl.1 (Nat.le_of_ble_eq_true rfl) dX1_fairLevel_183 rfl ⟨Nat.zero_le _, Nat.zero_le _⟩ (fun H locs hP hD hS => ?_)
                    refine lv_iload hx hb dX1_fairLevel_186 (lv_at hl 5 rfl) ?_
                    refine lv_icmp_ne (tgt := 208) hx hb dX1_fairLevel_188 (by decide) (fun c188 => ?_) (fun c188 => ?_)
                    · refine lv_iinc (v := (nI (k2 + 1))) (lv' := [(6, .int (nI (k2 + 1))), (0, .ref h), (1, .int f), (2, .int lh), (3, .int z4), (4, .int mh), (5, .int (nI k))]) hx hb dX1_fairLevel_208 hl (k := 6) rfl (nI_1 k2) (by decide) rfl (fun ls hl => ?_)
                      refine lv_goto (tgt := 160) hx hb dX1_fairLevel_211 (by decide) ?_
                      have hP9 := hP; have hD9 := hD; have hl9 := hl; have hR9 := hR; have ih9 := ih
                      subst hz1 hz2 hz3 hz4 hz5
                      exact ih9 (k2 + 1) lh mh (by omega) (by rw [← hR9, X1_fairLevel_L160, if_pos c177, if_neg c188])  H locs ls hP9 hD9 hS (lv_sub hl9 [1, 2, 3, 4, 5, 6, 0] rfl)
                    · refine lv_iload hx hb dX1_fairLevel_191 (lv_at hl 5 rfl) ?_
                      refine lv_iload hx hb dX1_fairLevel_193 (lv_at hl 4 rfl) ?_
                      refine lv_imul hx hb dX1_fairLevel_195 ?_
                      refine lv_iload_n hx hb dX1_fairLevel_196 rfl (lv_at hl 2 rfl) ?_
                      refine lv_icmp_gt (tgt := 208) hx hb dX1_fairLevel_197 (by decide) (fun c197 => ?_) (fun c197 => ?_)
                      · refine lv_iinc (v := (nI (k2 + 1))) (lv' := [(6, .int (nI (k2 + 1))), (0, .ref h), (1, .int f), (2, .int lh), (3, .int z4), (4, .int mh), (5, .int (nI k))]) hx hb dX1_fairLevel_208 hl (k := 6) rfl (nI_1 k2) (by decide) rfl (fun ls hl => ?_)
                        refine lv_goto (tgt := 160) hx hb dX1_fairLevel_211 (by decide) ?_
                        have hP9 := hP; have hD9 := hD; have hl9 := hl; have hR9 := hR; have ih9 := ih
                        subst hz1 hz2 hz3 hz4 hz5
                        exact ih9 (k2 + 1) lh mh (by omega) (by rw [← hR9, X1_fairLevel_L160, if_pos c177, if_pos c188, if_pos c197])  H locs ls hP9 hD9 hS (lv_sub hl9 [1, 2, 3, 4, 5, 6, 0] rfl)
                      · refine lv_iload_n hx hb dX1_fairLevel_200 rfl (lv_at hl 2 rfl) ?_
                        refine lv_iload hx hb dX1_fairLevel_201 (lv_at hl 5 rfl) ?_
                        refine lv_isub hx hb dX1_fairLevel_203 ?_
                        refine lv_istore_n (lv' := [(2, .int (lh - (nI k))), (0, .ref h), (1, .int f), (3, .int z4), (4, .int mh), (5, .int (nI k)), (6, .int (nI k2))]) hx hb dX1_fairLevel_204 rfl hl (by decide) rfl (fun ls hl => ?_)
                        refine lv_iinc (v := (mh + (-1))) (lv' := [(4, .int (mh + (-1))), (2, .int (lh - (nI k))), (0, .ref h), (1, .int f), (3, .int z4), (5, .int (nI k)), (6, .int (nI k2))]) hx hb dX1_fairLevel_205 hl (k := 4) rfl rfl (by decide) rfl (fun ls hl => ?_)
                        refine lv_iinc (v := (nI (k2 + 1))) (lv' := [(6, .int (nI (k2 + 1))), (4, .int (mh + (-1))), (2, .int (lh - (nI k))), (0, .ref h), (1, .int f), (3, .int z4), (5, .int (nI k))]) hx hb dX1_fairLevel_208 hl (k := 6) rfl (nI_1 k2) (by decide) rfl (fun ls hl => ?_)
                        refine lv_goto (tgt := 160) hx hb dX1_fairLevel_211 (by decide) ?_
                        have hP9 := hP; have hD9 := hD; have hl9 := hl; have hR9 := hR; have ih9 := ih
                        subst hz1 hz2 hz3 hz4 hz5
                        exact ih9 (k2 + 1) (lh - (nI k)) (mh + (-1)) (by omega) (by rw [← hR9, X1_fairLevel_L160, if_pos c177, if_pos c188, if_neg c197])  H locs ls hP9 hD9 hS (lv_sub hl9 [3, 4, 2, 5, 1, 6, 0] rfl)
              exact loop160 n 0 lg mg (by omega) rfl  H locs ls hP hD hS (lv_sub hl [1, 2, 3, 4, 5, 6, 0] rfl)
          exact loop150 32 1 z3 z5 (by omega) rfl  H locs ls hP hD hS (lv_sub hl [1, 2, 3, 4, 5, 0] rfl)
        · refine lv_iconst (v := (-1)) hx hb dX1_fairLevel_145 (by decide) ?_
          have hP9 := hP; have hD9 := hD
          subst hz1 hz2 hz3 hz4 hz5
          have hP8 : va_P (dC, dI) vwCl (mW cI cZ h a rpt rph rgr rca rne rap rle rfu rba rru rti rtk rsv ((X1_fairLevel rph rgr rca rne rap rle rfu rba rru rti rgi rpa n f).2.1) ((X1_fairLevel rph rgr rca rne rap rle rfu rba rru rti rgi rpa n f).2.2.1) ((X1_fairLevel rph rgr rca rne rap rle rfu rba rru rti rgi rpa n f).2.2.2)) H := by rw [X1_fairLevel, if_neg c7, if_neg c142]; exact hP9
          have hD8 : va_D A (mW cI cZ h a rpt rph rgr rca rne rap rle rfu rba rru rti rtk rsv ((X1_fairLevel rph rgr rca rne rap rle rfu rba rru rti rgi rpa n f).2.1) ((X1_fairLevel rph rgr rca rne rap rle rfu rba rru rti rgi rpa n f).2.2.1) ((X1_fairLevel rph rgr rca rne rap rle rfu rba rru rti rgi rpa n f).2.2.2)) := by rw [X1_fairLevel, if_neg c7, if_neg c142]; exact hD9
          exact hret H locs 146 ls (-1) hS hP8 hD8 (by rw [X1_fairLevel, if_neg c7, if_neg c142]) dX1_fairLevel_146
      have loop46 : ∀ (j k : Nat) (lf : Int32) (wn : Int32) (mn : Int32), k + j = n → X1_fairLevel_L46 rph rgr rca rne rap rle rfu rba rru rti rgi rpa n f  j k lf wn mn = (X1_fairLevel_L46 rph rgr rca rne rap rle rfu rba rru rti rgi rpa n f  n 0 (rfu f.toNatClampNeg) 0 0) → ∀ (H : Heap) (locs : List Loc) (ls : Array Slot), va_P (dC, dI) vwCl (mW cI cZ h a rpt rph rgr rca rne rap rle rfu rba rru rti rtk rsv z1 z2 0) H → va_D A (mW cI cZ h a rpt rph rgr rca rne rap rle rfu rba rru rti rtk rsv z1 z2 0) → va_S A s.heap H locs → lv_has ls 7 [(0, .ref h), (1, .int f), (2, .int lf), (3, .int wn), (4, .int mn), (5, .int (nI k))] → W p l e rmX1_fairLevel s m args below meth c H locs 0 0 Q (F0 m 46 ls []) := by
        intro j
        induction j with
        | zero =>
          intro k lf wn mn hk hR  H locs ls hP hD hS hl
          refine lv_iload hx hb dX1_fairLevel_46 (lv_at hl 5 rfl) ?_
          refine lv_aload_n hx hb dX1_fairLevel_48 rfl (lv_at hl 0 rfl) ?_
          refine va_get (D := (dC, dI)) (ci := 1) (v := .int rpt) (C := RX1) (T := TX1) (N := 16) hx hb hts hin hown hK hP 0 rfl rfl 0 (by decide) hw2 (fun _ h9 => h9) rfl dX1_fairLevel_49 ?_
          refine lv_icmp_ge (tgt := 140) hx hb dX1_fairLevel_52 (by decide) (fun _ => ?_) (fun c => absurd (by rw [hpc]; exact nI_le (by omega) (by omega)) c)
          have hP9 := hP; have hD9 := hD; have hl9 := hl; have hR9 := hR
          subst hz1 hz2
          exact cont46 lf (by rw [← hR9, X1_fairLevel_L46]) wn (by rw [← hR9, X1_fairLevel_L46]) mn (by rw [← hR9, X1_fairLevel_L46]) H locs ls hP9 hD9 hS (lv_sub hl9 [0, 1, 2, 3, 4] rfl)
        | succ j ih =>
          intro k lf wn mn hk hR  H locs ls hP hD hS hl
          refine lv_iload hx hb dX1_fairLevel_46 (lv_at hl 5 rfl) ?_
          refine lv_aload_n hx hb dX1_fairLevel_48 rfl (lv_at hl 0 rfl) ?_
          refine va_get (D := (dC, dI)) (ci := 1) (v := .int rpt) (C := RX1) (T := TX1) (N := 16) hx hb hts hin hown hK hP 0 rfl rfl 0 (by decide) hw2 (fun _ h9 => h9) rfl dX1_fairLevel_49 ?_
          refine lv_icmp_ge (tgt := 140) hx hb dX1_fairLevel_52 (by decide) (fun c => absurd c (by rw [hpc]; exact nI_ge (by omega) (by omega))) (fun _ => ?_)
          refine lv_iload_n hx hb dX1_fairLevel_55 rfl (lv_at hl 2 rfl) ?_
          refine lv_aload_n hx hb dX1_fairLevel_56 rfl (lv_at hl 0 rfl) ?_
          refine va_get (D := (dC, dI)) (ci := 1) (v := .ref (a 1)) (C := RX1) (T := TX1) (N := 16) hx hb hts hin hown hK hP 0 rfl rfl 1 (by decide) hw3 (fun _ h9 => h9) rfl dX1_fairLevel_57 ?_
          refine lv_iload hx hb dX1_fairLevel_60 (lv_at hl 5 rfl) ?_
          refine va_iald (f := rph) hx hb hK hP 1 0 rfl rfl (vp_in_nI (by omega) (by decide)) dX1_fairLevel_62 ?_
          refine lv_iconst (v := 3) hx hb dX1_fairLevel_63 (by decide) ?_
          refine lv_icmp_ne (tgt := 77) hx hb dX1_fairLevel_64 (by decide) (fun c64 => ?_) (fun c64 => ?_)
          · refine lv_iconst (v := 0) hx hb dX1_fairLevel_77 (by decide) ?_
            refine lv_isub hx hb dX1_fairLevel_78 ?_
            refine lv_istore_n (lv' := [(2, .int (lf - 0)), (0, .ref h), (1, .int f), (3, .int wn), (4, .int mn), (5, .int (nI k))]) hx hb dX1_fairLevel_79 rfl hl (by decide) rfl (fun ls hl => ?_)
            refine lv_iload_n hx hb dX1_fairLevel_80 rfl (lv_at hl 3 rfl) ?_
            refine lv_aload_n hx hb dX1_fairLevel_81 rfl (lv_at hl 1 rfl) ?_
            refine va_get (D := (dC, dI)) (ci := 1) (v := .ref (a 1)) (C := RX1) (T := TX1) (N := 16) hx hb hts hin hown hK hP 0 rfl rfl 1 (by decide) hw3 (fun _ h9 => h9) rfl dX1_fairLevel_82 ?_
            refine lv_iload hx hb dX1_fairLevel_85 (lv_at hl 5 rfl) ?_
            refine va_iald (f := rph) hx hb hK hP 1 0 rfl rfl (vp_in_nI (by omega) (by decide)) dX1_fairLevel_87 ?_
            refine lv_iload_n hx hb dX1_fairLevel_88 rfl (lv_at hl 2 rfl) ?_
            refine lv_icmp_ne (tgt := 101) hx hb dX1_fairLevel_89 (by decide) (fun c89 => ?_) (fun c89 => ?_)
            · refine lv_iconst (v := 0) hx hb dX1_fairLevel_101 (by decide) ?_
              refine lv_iadd hx hb dX1_fairLevel_102 ?_
              refine lv_istore_n (lv' := [(3, .int (wn + 0)), (2, .int (lf - 0)), (0, .ref h), (1, .int f), (4, .int mn), (5, .int (nI k))]) hx hb dX1_fairLevel_103 rfl hl (by decide) rfl (fun ls hl => ?_)
              refine lv_iload hx hb dX1_fairLevel_104 (lv_at hl 4 rfl) ?_
              refine lv_aload_n hx hb dX1_fairLevel_106 rfl (lv_at hl 2 rfl) ?_
              refine va_get (D := (dC, dI)) (ci := 1) (v := .ref (a 1)) (C := RX1) (T := TX1) (N := 16) hx hb hts hin hown hK hP 0 rfl rfl 1 (by decide) hw3 (fun _ h9 => h9) rfl dX1_fairLevel_107 ?_
              refine lv_iload hx hb dX1_fairLevel_110 (lv_at hl 5 rfl) ?_
              refine va_iald (f := rph) hx hb hK hP 1 0 rfl rfl (vp_in_nI (by omega) (by decide)) dX1_fairLevel_112 ?_
              refine lv_iload_n hx hb dX1_fairLevel_113 rfl (lv_at hl 3 rfl) ?_
              refine lv_icmp_ne (tgt := 130) hx hb dX1_fairLevel_114 (by decide) (fun _ => ?_) (fun c => absurd c c89)
              refine lv_iconst (v := 0) hx hb dX1_fairLevel_130 (by decide) ?_
              refine lv_iadd hx hb dX1_fairLevel_131 ?_
              refine lv_istore (lv' := [(4, .int (mn + 0)), (3, .int (wn + 0)), (2, .int (lf - 0)), (0, .ref h), (1, .int f), (5, .int (nI k))]) hx hb dX1_fairLevel_132 hl (by decide) rfl (fun ls hl => ?_)
              refine lv_iinc (v := (nI (k + 1))) (lv' := [(5, .int (nI (k + 1))), (4, .int (mn + 0)), (3, .int (wn + 0)), (2, .int (lf - 0)), (0, .ref h), (1, .int f)]) hx hb dX1_fairLevel_134 hl (k := 5) rfl (nI_1 k) (by decide) rfl (fun ls hl => ?_)
              refine lv_goto (tgt := 46) hx hb dX1_fairLevel_137 (by decide) ?_
              have hP9 := hP; have hD9 := hD; have hl9 := hl; have hR9 := hR; have ih9 := ih
              subst hz1 hz2
              exact ih9 (k + 1) (lf - 0) (wn + 0) (mn + 0) (by omega) (by rw [← hR9, X1_fairLevel_L46, if_neg c64, if_neg c89])  H locs ls hP9 hD9 hS (lv_sub hl9 [4, 5, 3, 2, 1, 0] rfl)
            · refine lv_aload_n hx hb dX1_fairLevel_92 rfl (lv_at hl 1 rfl) ?_
              refine lv_iload hx hb dX1_fairLevel_93 (lv_at hl 5 rfl) ?_
              refine k_calli (rest := [.int wn]) (q0 := 0) hC (c_X1_reaches l dC dI cI cZ h a rpt rph rgr rca rne rap rle rfu rba rru rti rtk rsv z1 z2 0  (nI k) (vp_in_nI (by omega) (by decide))) (cwV 1 hts gX1_fairLevel_X1_reaches rfl rfl rfl hd_X1_reaches ⟨Nat.le_of_ble_eq_true rfl, Nat.le_of_ble_eq_true rfl⟩) hK hP hD hS hA rfl rfl rfl hl.1 (Nat.le_of_ble_eq_true rfl) dX1_fairLevel_95 rfl ⟨Nat.zero_le _, Nat.zero_le _⟩ (fun H locs hP hD hS => ?_)
              refine lv_goto (tgt := 102) hx hb dX1_fairLevel_98 (by decide) ?_
              refine lv_iadd hx hb dX1_fairLevel_102 ?_
              refine lv_istore_n (lv' := [(3, .int (wn + (X1_reaches rph rgr rca rne rap rle rti (nI k)))), (2, .int (lf - 0)), (0, .ref h), (1, .int f), (4, .int mn), (5, .int (nI k))]) hx hb dX1_fairLevel_103 rfl hl (by decide) rfl (fun ls hl => ?_)
              refine lv_iload hx hb dX1_fairLevel_104 (lv_at hl 4 rfl) ?_
              refine lv_aload_n hx hb dX1_fairLevel_106 rfl (lv_at hl 2 rfl) ?_
              refine va_get (D := (dC, dI)) (ci := 1) (v := .ref (a 1)) (C := RX1) (T := TX1) (N := 16) hx hb hts hin hown hK hP 0 rfl rfl 1 (by decide) hw3 (fun _ h9 => h9) rfl dX1_fairLevel_107 ?_
              refine lv_iload hx hb dX1_fairLevel_110 (lv_at hl 5 rfl) ?_
              refine va_iald (f := rph) hx hb hK hP 1 0 rfl rfl (vp_in_nI (by omega) (by decide)) dX1_fairLevel_112 ?_
              refine lv_iload_n hx hb dX1_fairLevel_113 rfl (lv_at hl 3 rfl) ?_
              refine lv_icmp_ne (tgt := 130) hx hb dX1_fairLevel_114 (by decide) (fun c => absurd c89 c) (fun _ => ?_)
              refine lv_aload_n hx hb dX1_fairLevel_117 rfl (lv_at hl 2 rfl) ?_
              refine lv_iload hx hb dX1_fairLevel_118 (lv_at hl 5 rfl) ?_
              refine k_calli (rest := [.int mn]) (q0 := 0) hC (c_X1_reaches l dC dI cI cZ h a rpt rph rgr rca rne rap rle rfu rba rru rti rtk rsv z1 z2 0  (nI k) (vp_in_nI (by omega) (by decide))) (cwV 1 hts gX1_fairLevel_X1_reaches rfl rfl rfl hd_X1_reaches ⟨Nat.le_of_ble_eq_true rfl, Nat.le_of_ble_eq_true rfl⟩) hK hP hD hS hA rfl rfl rfl hl.1 (Nat.le_of_ble_eq_true rfl) dX1_fairLevel_120 rfl ⟨Nat.zero_le _, Nat.zero_le _⟩ (fun H locs hP hD hS => ?_)
              refine lv_if_le (tgt := 130) hx hb dX1_fairLevel_123 (by decide) (fun c123 => ?_) (fun c123 => ?_)
              · refine lv_iconst (v := 0) hx hb dX1_fairLevel_130 (by decide) ?_
                refine lv_iadd hx hb dX1_fairLevel_131 ?_
                refine lv_istore (lv' := [(4, .int (mn + 0)), (3, .int (wn + (X1_reaches rph rgr rca rne rap rle rti (nI k)))), (2, .int (lf - 0)), (0, .ref h), (1, .int f), (5, .int (nI k))]) hx hb dX1_fairLevel_132 hl (by decide) rfl (fun ls hl => ?_)
                refine lv_iinc (v := (nI (k + 1))) (lv' := [(5, .int (nI (k + 1))), (4, .int (mn + 0)), (3, .int (wn + (X1_reaches rph rgr rca rne rap rle rti (nI k)))), (2, .int (lf - 0)), (0, .ref h), (1, .int f)]) hx hb dX1_fairLevel_134 hl (k := 5) rfl (nI_1 k) (by decide) rfl (fun ls hl => ?_)
                refine lv_goto (tgt := 46) hx hb dX1_fairLevel_137 (by decide) ?_
                have hP9 := hP; have hD9 := hD; have hl9 := hl; have hR9 := hR; have ih9 := ih
                subst hz1 hz2
                exact ih9 (k + 1) (lf - 0) (wn + (X1_reaches rph rgr rca rne rap rle rti (nI k))) (mn + 0) (by omega) (by rw [← hR9, X1_fairLevel_L46, if_neg c64, if_pos c89, if_pos c123])  H locs ls hP9 hD9 hS (lv_sub hl9 [4, 5, 3, 2, 1, 0] rfl)
              · refine lv_iconst (v := 1) hx hb dX1_fairLevel_126 (by decide) ?_
                refine lv_goto (tgt := 131) hx hb dX1_fairLevel_127 (by decide) ?_
                refine lv_iadd hx hb dX1_fairLevel_131 ?_
                refine lv_istore (lv' := [(4, .int (mn + 1)), (3, .int (wn + (X1_reaches rph rgr rca rne rap rle rti (nI k)))), (2, .int (lf - 0)), (0, .ref h), (1, .int f), (5, .int (nI k))]) hx hb dX1_fairLevel_132 hl (by decide) rfl (fun ls hl => ?_)
                refine lv_iinc (v := (nI (k + 1))) (lv' := [(5, .int (nI (k + 1))), (4, .int (mn + 1)), (3, .int (wn + (X1_reaches rph rgr rca rne rap rle rti (nI k)))), (2, .int (lf - 0)), (0, .ref h), (1, .int f)]) hx hb dX1_fairLevel_134 hl (k := 5) rfl (nI_1 k) (by decide) rfl (fun ls hl => ?_)
                refine lv_goto (tgt := 46) hx hb dX1_fairLevel_137 (by decide) ?_
                have hP9 := hP; have hD9 := hD; have hl9 := hl; have hR9 := hR; have ih9 := ih
                subst hz1 hz2
                exact ih9 (k + 1) (lf - 0) (wn + (X1_reaches rph rgr rca rne rap rle rti (nI k))) (mn + 1) (by omega) (by rw [← hR9, X1_fairLevel_L46, if_neg c64, if_pos c89, if_neg c123])  H locs ls hP9 hD9 hS (lv_sub hl9 [4, 5, 3, 2, 1, 0] rfl)
          · refine lv_aload_n hx hb dX1_fairLevel_67 rfl (lv_at hl 0 rfl) ?_
            refine va_get (D := (dC, dI)) (ci := 1) (v := .ref (a 13)) (C := RX1) (T := TX1) (N := 16) hx hb hts hin hown hK hP 0 rfl rfl 13 (by decide) hw4 (fun _ h9 => h9) rfl dX1_fairLevel_68 ?_
            refine lv_iload hx hb dX1_fairLevel_71 (lv_at hl 5 rfl) ?_
            refine va_iald (f := z1) hx hb hK hP 8 0 rfl rfl (vp_in_nI (by omega) (by decide)) dX1_fairLevel_73 ?_
            refine lv_goto (tgt := 78) hx hb dX1_fairLevel_74 (by decide) ?_
            refine lv_isub hx hb dX1_fairLevel_78 ?_
            refine lv_istore_n (lv' := [(2, .int (lf - (z1 (nI k).toNatClampNeg))), (0, .ref h), (1, .int f), (3, .int wn), (4, .int mn), (5, .int (nI k))]) hx hb dX1_fairLevel_79 rfl hl (by decide) rfl (fun ls hl => ?_)
            refine lv_iload_n hx hb dX1_fairLevel_80 rfl (lv_at hl 3 rfl) ?_
            refine lv_aload_n hx hb dX1_fairLevel_81 rfl (lv_at hl 1 rfl) ?_
            refine va_get (D := (dC, dI)) (ci := 1) (v := .ref (a 1)) (C := RX1) (T := TX1) (N := 16) hx hb hts hin hown hK hP 0 rfl rfl 1 (by decide) hw3 (fun _ h9 => h9) rfl dX1_fairLevel_82 ?_
            refine lv_iload hx hb dX1_fairLevel_85 (lv_at hl 5 rfl) ?_
            refine va_iald (f := rph) hx hb hK hP 1 0 rfl rfl (vp_in_nI (by omega) (by decide)) dX1_fairLevel_87 ?_
            refine lv_iload_n hx hb dX1_fairLevel_88 rfl (lv_at hl 2 rfl) ?_
            refine lv_icmp_ne (tgt := 101) hx hb dX1_fairLevel_89 (by decide) (fun c89 => ?_) (fun c89 => ?_)
            · refine lv_iconst (v := 0) hx hb dX1_fairLevel_101 (by decide) ?_
              refine lv_iadd hx hb dX1_fairLevel_102 ?_
              refine lv_istore_n (lv' := [(3, .int (wn + 0)), (2, .int (lf - (z1 (nI k).toNatClampNeg))), (0, .ref h), (1, .int f), (4, .int mn), (5, .int (nI k))]) hx hb dX1_fairLevel_103 rfl hl (by decide) rfl (fun ls hl => ?_)
              refine lv_iload hx hb dX1_fairLevel_104 (lv_at hl 4 rfl) ?_
              refine lv_aload_n hx hb dX1_fairLevel_106 rfl (lv_at hl 2 rfl) ?_
              refine va_get (D := (dC, dI)) (ci := 1) (v := .ref (a 1)) (C := RX1) (T := TX1) (N := 16) hx hb hts hin hown hK hP 0 rfl rfl 1 (by decide) hw3 (fun _ h9 => h9) rfl dX1_fairLevel_107 ?_
              refine lv_iload hx hb dX1_fairLevel_110 (lv_at hl 5 rfl) ?_
              refine va_iald (f := rph) hx hb hK hP 1 0 rfl rfl (vp_in_nI (by omega) (by decide)) dX1_fairLevel_112 ?_
              refine lv_iload_n hx hb dX1_fairLevel_113 rfl (lv_at hl 3 rfl) ?_
              refine lv_icmp_ne (tgt := 130) hx hb dX1_fairLevel_114 (by decide) (fun _ => ?_) (fun c => absurd c c89)
              refine lv_iconst (v := 0) hx hb dX1_fairLevel_130 (by decide) ?_
              refine lv_iadd hx hb dX1_fairLevel_131 ?_
              refine lv_istore (lv' := [(4, .int (mn + 0)), (3, .int (wn + 0)), (2, .int (lf - (z1 (nI k).toNatClampNeg))), (0, .ref h), (1, .int f), (5, .int (nI k))]) hx hb dX1_fairLevel_132 hl (by decide) rfl (fun ls hl => ?_)
              refine lv_iinc (v := (nI (k + 1))) (lv' := [(5, .int (nI (k + 1))), (4, .int (mn + 0)), (3, .int (wn + 0)), (2, .int (lf - (z1 (nI k).toNatClampNeg))), (0, .ref h), (1, .int f)]) hx hb dX1_fairLevel_134 hl (k := 5) rfl (nI_1 k) (by decide) rfl (fun ls hl => ?_)
              refine lv_goto (tgt := 46) hx hb dX1_fairLevel_137 (by decide) ?_
              have hP9 := hP; have hD9 := hD; have hl9 := hl; have hR9 := hR; have ih9 := ih
              subst hz1 hz2
              exact ih9 (k + 1) (lf - (((X1_shares rph rgr rca rne rap rle rfu rba rru rti rgi rpa n).1) (nI k).toNatClampNeg)) (wn + 0) (mn + 0) (by omega) (by rw [← hR9, X1_fairLevel_L46, if_pos c64, if_neg c89])  H locs ls hP9 hD9 hS (lv_sub hl9 [4, 5, 3, 2, 1, 0] rfl)
            · refine lv_aload_n hx hb dX1_fairLevel_92 rfl (lv_at hl 1 rfl) ?_
              refine lv_iload hx hb dX1_fairLevel_93 (lv_at hl 5 rfl) ?_
              refine k_calli (rest := [.int wn]) (q0 := 0) hC (c_X1_reaches l dC dI cI cZ h a rpt rph rgr rca rne rap rle rfu rba rru rti rtk rsv z1 z2 0  (nI k) (vp_in_nI (by omega) (by decide))) (cwV 1 hts gX1_fairLevel_X1_reaches rfl rfl rfl hd_X1_reaches ⟨Nat.le_of_ble_eq_true rfl, Nat.le_of_ble_eq_true rfl⟩) hK hP hD hS hA rfl rfl rfl hl.1 (Nat.le_of_ble_eq_true rfl) dX1_fairLevel_95 rfl ⟨Nat.zero_le _, Nat.zero_le _⟩ (fun H locs hP hD hS => ?_)
              refine lv_goto (tgt := 102) hx hb dX1_fairLevel_98 (by decide) ?_
              refine lv_iadd hx hb dX1_fairLevel_102 ?_
              refine lv_istore_n (lv' := [(3, .int (wn + (X1_reaches rph rgr rca rne rap rle rti (nI k)))), (2, .int (lf - (z1 (nI k).toNatClampNeg))), (0, .ref h), (1, .int f), (4, .int mn), (5, .int (nI k))]) hx hb dX1_fairLevel_103 rfl hl (by decide) rfl (fun ls hl => ?_)
              refine lv_iload hx hb dX1_fairLevel_104 (lv_at hl 4 rfl) ?_
              refine lv_aload_n hx hb dX1_fairLevel_106 rfl (lv_at hl 2 rfl) ?_
              refine va_get (D := (dC, dI)) (ci := 1) (v := .ref (a 1)) (C := RX1) (T := TX1) (N := 16) hx hb hts hin hown hK hP 0 rfl rfl 1 (by decide) hw3 (fun _ h9 => h9) rfl dX1_fairLevel_107 ?_
              refine lv_iload hx hb dX1_fairLevel_110 (lv_at hl 5 rfl) ?_
              refine va_iald (f := rph) hx hb hK hP 1 0 rfl rfl (vp_in_nI (by omega) (by decide)) dX1_fairLevel_112 ?_
              refine lv_iload_n hx hb dX1_fairLevel_113 rfl (lv_at hl 3 rfl) ?_
              refine lv_icmp_ne (tgt := 130) hx hb dX1_fairLevel_114 (by decide) (fun c => absurd c89 c) (fun _ => ?_)
              refine lv_aload_n hx hb dX1_fairLevel_117 rfl (lv_at hl 2 rfl) ?_
              refine lv_iload hx hb dX1_fairLevel_118 (lv_at hl 5 rfl) ?_
              refine k_calli (rest := [.int mn]) (q0 := 0) hC (c_X1_reaches l dC dI cI cZ h a rpt rph rgr rca rne rap rle rfu rba rru rti rtk rsv z1 z2 0  (nI k) (vp_in_nI (by omega) (by decide))) (cwV 1 hts gX1_fairLevel_X1_reaches rfl rfl rfl hd_X1_reaches ⟨Nat.le_of_ble_eq_true rfl, Nat.le_of_ble_eq_true rfl⟩) hK hP hD hS hA rfl rfl rfl hl.1 (Nat.le_of_ble_eq_true rfl) dX1_fairLevel_120 rfl ⟨Nat.zero_le _, Nat.zero_le _⟩ (fun H locs hP hD hS => ?_)
              refine lv_if_le (tgt := 130) hx hb dX1_fairLevel_123 (by decide) (fun c123 => ?_) (fun c123 => ?_)
              · refine lv_iconst (v := 0) hx hb dX1_fairLevel_130 (by decide) ?_
                refine lv_iadd hx hb dX1_fairLevel_131 ?_
                refine lv_istore (lv' := [(4, .int (mn + 0)), (3, .int (wn + (X1_reaches rph rgr rca rne rap rle rti (nI k)))), (2, .int (lf - (z1 (nI k).toNatClampNeg))), (0, .ref h), (1, .int f), (5, .int (nI k))]) hx hb dX1_fairLevel_132 hl (by decide) rfl (fun ls hl => ?_)
                refine lv_iinc (v := (nI (k + 1))) (lv' := [(5, .int (nI (k + 1))), (4, .int (mn + 0)), (3, .int (wn + (X1_reaches rph rgr rca rne rap rle rti (nI k)))), (2, .int (lf - (z1 (nI k).toNatClampNeg))), (0, .ref h), (1, .int f)]) hx hb dX1_fairLevel_134 hl (k := 5) rfl (nI_1 k) (by decide) rfl (fun ls hl => ?_)
                refine lv_goto (tgt := 46) hx hb dX1_fairLevel_137 (by decide) ?_
                have hP9 := hP; have hD9 := hD; have hl9 := hl; have hR9 := hR; have ih9 := ih
                subst hz1 hz2
                exact ih9 (k + 1) (lf - (((X1_shares rph rgr rca rne rap rle rfu rba rru rti rgi rpa n).1) (nI k).toNatClampNeg)) (wn + (X1_reaches rph rgr rca rne rap rle rti (nI k))) (mn + 0) (by omega) (by rw [← hR9, X1_fairLevel_L46, if_pos c64, if_pos c89, if_pos c123])  H locs ls hP9 hD9 hS (lv_sub hl9 [4, 5, 3, 2, 1, 0] rfl)
              · refine lv_iconst (v := 1) hx hb dX1_fairLevel_126 (by decide) ?_
                refine lv_goto (tgt := 131) hx hb dX1_fairLevel_127 (by decide) ?_
                refine lv_iadd hx hb dX1_fairLevel_131 ?_
                refine lv_istore (lv' := [(4, .int (mn + 1)), (3, .int (wn + (X1_reaches rph rgr rca rne rap rle rti (nI k)))), (2, .int (lf - (z1 (nI k).toNatClampNeg))), (0, .ref h), (1, .int f), (5, .int (nI k))]) hx hb dX1_fairLevel_132 hl (by decide) rfl (fun ls hl => ?_)
                refine lv_iinc (v := (nI (k + 1))) (lv' := [(5, .int (nI (k + 1))), (4, .int (mn + 1)), (3, .int (wn + (X1_reaches rph rgr rca rne rap rle rti (nI k)))), (2, .int (lf - (z1 (nI k).toNatClampNeg))), (0, .ref h), (1, .int f)]) hx hb dX1_fairLevel_134 hl (k := 5) rfl (nI_1 k) (by decide) rfl (fun ls hl => ?_)
                refine lv_goto (tgt := 46) hx hb dX1_fairLevel_137 (by decide) ?_
                have hP9 := hP; have hD9 := hD; have hl9 := hl; have hR9 := hR; have ih9 := ih
                subst hz1 hz2
                exact ih9 (k + 1) (lf - (((X1_shares rph rgr rca rne rap rle rfu rba rru rti rgi rpa n).1) (nI k).toNatClampNeg)) (wn + (X1_reaches rph rgr rca rne rap rle rti (nI k))) (mn + 1) (by omega) (by rw [← hR9, X1_fairLevel_L46, if_pos c64, if_pos c89, if_neg c123])  H locs ls hP9 hD9 hS (lv_sub hl9 [4, 5, 3, 2, 1, 0] rfl)
      exact loop46 n 0 (rfu f.toNatClampNeg) 0 0 (by omega) rfl  H locs ls hP hD hS (lv_sub hl [4, 5, 3, 2, 1, 0] rfl)
  exact hW _ _ hP hD hS
