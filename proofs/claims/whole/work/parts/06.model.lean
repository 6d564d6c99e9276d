def X1_thrown (rth : Int32)  : Int32 := rth
abbrev rmX1_thrown : Room := { frames := 0, cells := 0, slots := 0, locals := 0 }
theorem hd_X1_thrown : yX1_thrown.cls = RX1 ∧ yX1_thrown.cls ≠ "java/lang/invoke/MethodHandle" ∧ yX1_thrown.cls ≠ "java/lang/invoke/VarHandle" ∧ (parseMethodDescriptor yX1_thrown.desc).map (fun d => d.parameters.length) = some 0 := by decide +kernel
set_option maxHeartbeats 4000000 in
set_option maxRecDepth 100000 in
theorem c_X1_thrown (l : Launch) (dC : Nat → ClassId) (dI : Nat → Nat → Nat) (cI cZ : ClassId) (h : Nat) (a : Nat → Nat) (rpt : Int32) (rph : AR) (rgr : AR) (rca : AR) (rne : AR) (rap : AR) (rle : AR) (rfu : AR) (rba : Int32) (rru : Int32) (rti : Int32) (rtk : Int32) (rsv : Int32) (rgi : AR) (rpa : AR) (rth : Int32) : Ki l yX1_thrown wsX1_thrown rmX1_thrown dC dI cI cZ [.ref h] (mW cI cZ h a rpt rph rgr rca rne rap rle rfu rba rru rti rtk rsv rgi rpa rth) (mW cI cZ h a rpt rph rgr rca rne rap rle rfu rba rru rti rtk rsv rgi rpa rth) (X1_thrown rth) := by
  refine k_enter_i (cc := cX1_thrown) (maxL := 1) (ret := some .int) (by decide) rfl (Nat.le_of_ble_eq_true rfl) ?_
  intro p e s m below meth c A ls hC hr hlocks hK hP hD hS hA hl
  generalize List.toArray _ = args at hC ⊢
  obtain ⟨hx, hb, hml, hown, hts⟩ := id hC
  have hret : ∀ (H : Heap) (locs : List Loc) (pc : Nat) (ls : Array Slot) (r : Int32), va_S A s.heap H locs → va_P (dC, dI) vwCl (mW cI cZ h a rpt rph rgr rca rne rap rle rfu rba rru rti rtk rsv rgi rpa rth) H → va_D A (mW cI cZ h a rpt rph rgr rca rne rap rle rfu rba rru rti rtk rsv rgi rpa rth) → r = (X1_thrown rth) → decode cX1_thrown pc = .ok (.ireturn, 1) → W p l e rmX1_thrown s m args below meth c H locs 0 0 (MQ below (va_Qi (fun r (_ : Unit) => r = (X1_thrown rth)) (kBeh dC dI A (mW cI cZ h a rpt rph rgr rca rne rap rle rfu rba rru rti rtk rsv rgi rpa rth)) A) args s 0 0 A) (F0 m pc ls [.int r]) := fun H locs pc ls r hS hP hD hv d => k_iret hx hb hr hlocks hS hP hD hv d
  generalize MQ below _ _ _ _ _ _ = Q at hret ⊢
  have hin : ∀ w ∈ wsX10, w ∈ wsX1_thrown := by decide +kernel
  have hw0 := hts (.fieldLink RX1 42 "ChargeParkModel" "thrown" "I") (by decide +kernel)
  have hl : lv_has ls 1 [(0, .ref h)] := hl
  have hP : va_P (dC, dI) vwCl (mW cI cZ h a rpt rph rgr rca rne rap rle rfu rba rru rti rtk rsv rgi rpa rth) s.heap := hP
  have hW : ∀ (H : Heap) (locs : List Loc), va_P (dC, dI) vwCl (mW cI cZ h a rpt rph rgr rca rne rap rle rfu rba rru rti rtk rsv rgi rpa rth) H → va_D A (mW cI cZ h a rpt rph rgr rca rne rap rle rfu rba rru rti rtk rsv rgi rpa rth) → va_S A s.heap H locs → W p l e rmX1_thrown s m args below meth c H locs 0 0 Q (F0 m 0 ls []) := by
    intro H locs hP hD hS
    refine lv_aload_n hx hb dX1_thrown_0 rfl (lv_at hl 0 rfl) ?_
    refine va_get (D := (dC, dI)) (ci := 1) (v := .int rth) (C := RX1) (T := TX1) (N := 16) hx hb hts hin hown hK hP 0 rfl rfl 15 (by decide) hw0 (fun _ h9 => h9) rfl dX1_thrown_1 ?_
    exact hret H locs 4 ls rth hS hP hD (by rw [X1_thrown]) dX1_thrown_4
  exact hW _ _ hP hD hS
def X1_isIn (nu : Int32) (lw : Int32) (hg : Int32) : Int32 := (if nu < lw then 0 else (if hg < nu then 0 else 1))
abbrev rmX1_isIn : Room := { frames := 0, cells := 0, slots := 0, locals := 0 }
theorem hd_X1_isIn : yX1_isIn.cls ≠ "java/lang/invoke/MethodHandle" ∧ yX1_isIn.cls ≠ "java/lang/invoke/VarHandle" ∧ (parseMethodDescriptor yX1_isIn.desc).map (fun d => d.parameters.length) = some 3 := by decide +kernel
set_option maxHeartbeats 4000000 in
set_option maxRecDepth 100000 in
theorem c_X1_isIn (l : Launch) (dC : Nat → ClassId) (dI : Nat → Nat → Nat) (cI cZ : ClassId) (w : va_W) (nu : Int32) (lw : Int32) (hg : Int32) : Ki l yX1_isIn wsX1_isIn rmX1_isIn dC dI cI cZ [.int nu, .int lw, .int hg] w w (X1_isIn nu lw hg) := by
  refine k_enter_i (cc := cX1_isIn) (maxL := 3) (ret := some .boolean) (by decide) rfl (Nat.le_of_ble_eq_true rfl) ?_
  intro p e s m below meth c A ls hC hr hlocks hK hP hD hS hA hl
  generalize List.toArray _ = args at hC ⊢
  obtain ⟨hx, hb, hml, hown, hts⟩ := id hC
  have hret : ∀ (H : Heap) (locs : List Loc) (pc : Nat) (ls : Array Slot) (r : Int32), va_S A s.heap H locs → va_P (dC, dI) vwCl w H → va_D A w → r = (X1_isIn nu lw hg) → (r = 0 ∨ r = 1) → decode cX1_isIn pc = .ok (.ireturn, 1) → W p l e rmX1_isIn s m args below meth c H locs 0 0 (MQ below (va_Qi (fun r (_ : Unit) => r = (X1_isIn nu lw hg)) (kBeh dC dI A w) A) args s 0 0 A) (F0 m pc ls [.int r]) := fun H locs pc ls r hS hP hD hv hz d => k_zret hx hb hr hlocks hS hP hD hv hz d
  generalize MQ below _ _ _ _ _ _ = Q at hret ⊢
  have hl : lv_has ls 3 [(0, .int nu), (1, .int lw), (2, .int hg)] := hl
  have hW : ∀ (H : Heap) (locs : List Loc), va_P (dC, dI) vwCl w H → va_D A w → va_S A s.heap H locs → W p l e rmX1_isIn s m args below meth c H locs 0 0 Q (F0 m 0 ls []) := by
    intro H locs hP hD hS
    refine lv_iload_n hx hb dX1_isIn_0 rfl (lv_at hl 0 rfl) ?_
    refine lv_iload_n hx hb dX1_isIn_1 rfl (lv_at hl 1 rfl) ?_
    refine lv_icmp_lt (tgt := 14) hx hb dX1_isIn_2 (by decide) (fun c2 => ?_) (fun c2 => ?_)
    · refine lv_iconst (v := 0) hx hb dX1_isIn_14 (by decide) ?_
      exact hret H locs 15 ls 0 hS hP hD (by rw [X1_isIn, if_pos c2]) (Or.inl rfl) dX1_isIn_15
    · refine lv_iload_n hx hb dX1_isIn_5 rfl (lv_at hl 0 rfl) ?_
      refine lv_iload_n hx hb dX1_isIn_6 rfl (lv_at hl 2 rfl) ?_
      refine lv_icmp_gt (tgt := 14) hx hb dX1_isIn_7 (by decide) (fun c7 => ?_) (fun c7 => ?_)
      · refine lv_iconst (v := 0) hx hb dX1_isIn_14 (by decide) ?_
        exact hret H locs 15 ls 0 hS hP hD (by rw [X1_isIn, if_neg c2, if_pos c7]) (Or.inl rfl) dX1_isIn_15
      · refine lv_iconst (v := 1) hx hb dX1_isIn_10 (by decide) ?_
        refine lv_goto (tgt := 15) hx hb dX1_isIn_11 (by decide) ?_
        exact hret H locs 15 ls 1 hS hP hD (by rw [X1_isIn, if_neg c2, if_neg c7]) (Or.inr rfl) dX1_isIn_15
  exact hW _ _ hP hD hS
def X1_stepsLeft (rle : AR) (rti : Int32) (i : Int32) : Int32 := (if (rle i.toNatClampNeg) ≤ rti then 0 else ((rle i.toNatClampNeg) - rti))
abbrev rmX1_stepsLeft : Room := { frames := 0, cells := 0, slots := 0, locals := 0 }
theorem hd_X1_stepsLeft : yX1_stepsLeft.cls = RX1 ∧ yX1_stepsLeft.cls ≠ "java/lang/invoke/MethodHandle" ∧ yX1_stepsLeft.cls ≠ "java/lang/invoke/VarHandle" ∧ (parseMethodDescriptor yX1_stepsLeft.desc).map (fun d => d.parameters.length) = some 1 := by decide +kernel
set_option maxHeartbeats 4000000 in
set_option maxRecDepth 100000 in
theorem c_X1_stepsLeft (l : Launch) (dC : Nat → ClassId) (dI : Nat → Nat → Nat) (cI cZ : ClassId) (h : Nat) (a : Nat → Nat) (rpt : Int32) (rph : AR) (rgr : AR) (rca : AR) (rne : AR) (rap : AR) (rle : AR) (rfu : AR) (rba : Int32) (rru : Int32) (rti : Int32) (rtk : Int32) (rsv : Int32) (rgi : AR) (rpa : AR) (rth : Int32) (i : Int32) (hp : vp_in i 8) : Ki l yX1_stepsLeft wsX1_stepsLeft rmX1_stepsLeft dC dI cI cZ [.ref h, .int i] (mW cI cZ h a rpt rph rgr rca rne rap rle rfu rba rru rti rtk rsv rgi rpa rth) (mW cI cZ h a rpt rph rgr rca rne rap rle rfu rba rru rti rtk rsv rgi rpa rth) (X1_stepsLeft rle rti i) := by
  refine k_enter_i (cc := cX1_stepsLeft) (maxL := 2) (ret := some .int) (by decide) rfl (Nat.le_of_ble_eq_true rfl) ?_
  intro p e s m below meth c A ls hC hr hlocks hK hP hD hS hA hl
  generalize List.toArray _ = args at hC ⊢
  obtain ⟨hx, hb, hml, hown, hts⟩ := id hC
  have hret : ∀ (H : Heap) (locs : List Loc) (pc : Nat) (ls : Array Slot) (r : Int32), va_S A s.heap H locs → va_P (dC, dI) vwCl (mW cI cZ h a rpt rph rgr rca rne rap rle rfu rba rru rti rtk rsv rgi rpa rth) H → va_D A (mW cI cZ h a rpt rph rgr rca rne rap rle rfu rba rru rti rtk rsv rgi rpa rth) → r = (X1_stepsLeft rle rti i) → decode cX1_stepsLeft pc = .ok (.ireturn, 1) → W p l e rmX1_stepsLeft s m args below meth c H locs 0 0 (MQ below (va_Qi (fun r (_ : Unit) => r = (X1_stepsLeft rle rti i)) (kBeh dC dI A (mW cI cZ h a rpt rph rgr rca rne rap rle rfu rba rru rti rtk rsv rgi rpa rth)) A) args s 0 0 A) (F0 m pc ls [.int r]) := fun H locs pc ls r hS hP hD hv d => k_iret hx hb hr hlocks hS hP hD hv d
  generalize MQ below _ _ _ _ _ _ = Q at hret ⊢
  have hin : ∀ w ∈ wsX10, w ∈ wsX1_stepsLeft := by decide +kernel
  have hw0 := hts (.fieldLink RX1 26 "ChargeParkModel" "leaves" "[I") (by decide +kernel)
  have hw1 := hts (.fieldLink RX1 55 "ChargeParkModel" "time" "I") (by decide +kernel)
  have hl : lv_has ls 2 [(0, .ref h), (1, .int i)] := hl
  have hP : va_P (dC, dI) vwCl (mW cI cZ h a rpt rph rgr rca rne rap rle rfu rba rru rti rtk rsv rgi rpa rth) s.heap := hP
  have hW : ∀ (H : Heap) (locs : List Loc), va_P (dC, dI) vwCl (mW cI cZ h a rpt rph rgr rca rne rap rle rfu rba rru rti rtk rsv rgi rpa rth) H → va_D A (mW cI cZ h a rpt rph rgr rca rne rap rle rfu rba rru rti rtk rsv rgi rpa rth) → va_S A s.heap H locs → W p l e rmX1_stepsLeft s m args below meth c H locs 0 0 Q (F0 m 0 ls []) := by
    intro H locs hP hD hS
    refine lv_aload_n hx hb dX1_stepsLeft_0 rfl (lv_at hl 0 rfl) ?_
    refine va_get (D := (dC, dI)) (ci := 1) (v := .ref (a 6)) (C := RX1) (T := TX1) (N := 16) hx hb hts hin hown hK hP 0 rfl rfl 6 (by decide) hw0 (fun _ h9 => h9) rfl dX1_stepsLeft_1 ?_
    refine lv_iload_n hx hb dX1_stepsLeft_4 rfl (lv_at hl 1 rfl) ?_
    refine va_iald (f := rle) hx hb hK hP 6 0 rfl rfl hp dX1_stepsLeft_5 ?_
    refine lv_aload_n hx hb dX1_stepsLeft_6 rfl (lv_at hl 0 rfl) ?_
    refine va_get (D := (dC, dI)) (ci := 1) (v := .int rti) (C := RX1) (T := TX1) (N := 16) hx hb hts hin hown hK hP 0 rfl rfl 10 (by decide) hw1 (fun _ h9 => h9) rfl dX1_stepsLeft_7 ?_
    refine lv_icmp_le (tgt := 27) hx hb dX1_stepsLeft_10 (by decide) (fun c10 => ?_) (fun c10 => ?_)
    · refine lv_iconst (v := 0) hx hb dX1_stepsLeft_27 (by decide) ?_
      exact hret H locs 28 ls 0 hS hP hD (by rw [X1_stepsLeft, if_pos c10]) dX1_stepsLeft_28
    · refine lv_aload_n hx hb dX1_stepsLeft_13 rfl (lv_at hl 0 rfl) ?_
      refine va_get (D := (dC, dI)) (ci := 1) (v := .ref (a 6)) (C := RX1) (T := TX1) (N := 16) hx hb hts hin hown hK hP 0 rfl rfl 6 (by decide) hw0 (fun _ h9 => h9) rfl dX1_stepsLeft_14 ?_
      refine lv_iload_n hx hb dX1_stepsLeft_17 rfl (lv_at hl 1 rfl) ?_
      refine va_iald (f := rle) hx hb hK hP 6 0 rfl rfl hp dX1_stepsLeft_18 ?_
      refine lv_aload_n hx hb dX1_stepsLeft_19 rfl (lv_at hl 0 rfl) ?_
      refine va_get (D := (dC, dI)) (ci := 1) (v := .int rti) (C := RX1) (T := TX1) (N := 16) hx hb hts hin hown hK hP 0 rfl rfl 10 (by decide) hw1 (fun _ h9 => h9) rfl dX1_stepsLeft_20 ?_
      refine lv_isub hx hb dX1_stepsLeft_23 ?_
      refine lv_goto (tgt := 28) hx hb dX1_stepsLeft_24 (by decide) ?_
      exact hret H locs 28 ls ((rle i.toNatClampNeg) - rti) hS hP hD (by rw [X1_stepsLeft, if_neg c10]) dX1_stepsLeft_28
  exact hW _ _ hP hD hS
def X1_times (rph : AR) (i : Int32) : Int32 := (if (rph i.toNatClampNeg) = 3 then 3 else 1)
abbrev rmX1_times : Room := { frames := 0, cells := 0, slots := 0, locals := 0 }
theorem hd_X1_times : yX1_times.cls = RX1 ∧ yX1_times.cls ≠ "java/lang/invoke/MethodHandle" ∧ yX1_times.cls ≠ "java/lang/invoke/VarHandle" ∧ (parseMethodDescriptor yX1_times.desc).map (fun d => d.parameters.length) = some 1 := by decide +kernel
set_option maxHeartbeats 4000000 in
set_option maxRecDepth 100000 in
theorem c_X1_times (l : Launch) (dC : Nat → ClassId) (dI : Nat → Nat → Nat) (cI cZ : ClassId) (h : Nat) (a : Nat → Nat) (rpt : Int32) (rph : AR) (rgr : AR) (rca : AR) (rne : AR) (rap : AR) (rle : AR) (rfu : AR) (rba : Int32) (rru : Int32) (rti : Int32) (rtk : Int32) (rsv : Int32) (rgi : AR) (rpa : AR) (rth : Int32) (i : Int32) (hp : vp_in i 8) : Ki l yX1_times wsX1_times rmX1_times dC dI cI cZ [.ref h, .int i] (mW cI cZ h a rpt rph rgr rca rne rap rle rfu rba rru rti rtk rsv rgi rpa rth) (mW cI cZ h a rpt rph rgr rca rne rap rle rfu rba rru rti rtk rsv rgi rpa rth) (X1_times rph i) := by
  refine k_enter_i (cc := cX1_times) (maxL := 2) (ret := some .int) (by decide) rfl (Nat.le_of_ble_eq_true rfl) ?_
  intro p e s m below meth c A ls hC hr hlocks hK hP hD hS hA hl
  generalize List.toArray _ = args at hC ⊢
  obtain ⟨hx, hb, hml, hown, hts⟩ := id hC
  have hret : ∀ (H : Heap) (locs : List Loc) (pc : Nat) (ls : Array Slot) (r : Int32), va_S A s.heap H locs → va_P (dC, dI) vwCl (mW cI cZ h a rpt rph rgr rca rne rap rle rfu rba rru rti rtk rsv rgi rpa rth) H → va_D A (mW cI cZ h a rpt rph rgr rca rne rap rle rfu rba rru rti rtk rsv rgi rpa rth) → r = (X1_times rph i) → decode cX1_times pc = .ok (.ireturn, 1) → W p l e rmX1_times s m args below meth c H locs 0 0 (MQ below (va_Qi (fun r (_ : Unit) => r = (X1_times rph i)) (kBeh dC dI A (mW cI cZ h a rpt rph rgr rca rne rap rle rfu rba rru rti rtk rsv rgi rpa rth)) A) args s 0 0 A) (F0 m pc ls [.int r]) := fun H locs pc ls r hS hP hD hv d => k_iret hx hb hr hlocks hS hP hD hv d
  generalize MQ below _ _ _ _ _ _ = Q at hret ⊢
  have hin : ∀ w ∈ wsX10, w ∈ wsX1_times := by decide +kernel
  have hw0 := hts (.fieldLink RX1 7 "ChargeParkModel" "phase" "[I") (by decide +kernel)
  have hl : lv_has ls 2 [(0, .ref h), (1, .int i)] := hl
  have hP : va_P (dC, dI) vwCl (mW cI cZ h a rpt rph rgr rca rne rap rle rfu rba rru rti rtk rsv rgi rpa rth) s.heap := hP
  have hW : ∀ (H : Heap) (locs : List Loc), va_P (dC, dI) vwCl (mW cI cZ h a rpt rph rgr rca rne rap rle rfu rba rru rti rtk rsv rgi rpa rth) H → va_D A (mW cI cZ h a rpt rph rgr rca rne rap rle rfu rba rru rti rtk rsv rgi rpa rth) → va_S A s.heap H locs → W p l e rmX1_times s m args below meth c H locs 0 0 Q (F0 m 0 ls []) := by
    intro H locs hP hD hS
    refine lv_aload_n hx hb dX1_times_0 rfl (lv_at hl 0 rfl) ?_
    refine va_get (D := (dC, dI)) (ci := 1) (v := .ref (a 1)) (C := RX1) (T := TX1) (N := 16) hx hb hts hin hown hK hP 0 rfl rfl 1 (by decide) hw0 (fun _ h9 => h9) rfl dX1_times_1 ?_
    refine lv_iload_n hx hb dX1_times_4 rfl (lv_at hl 1 rfl) ?_
    refine va_iald (f := rph) hx hb hK hP 1 0 rfl rfl hp dX1_times_5 ?_
    refine lv_iconst (v := 3) hx hb dX1_times_6 (by decide) ?_
    refine lv_icmp_ne (tgt := 14) hx hb dX1_times_7 (by decide) (fun c7 => ?_) (fun c7 => ?_)
    · refine lv_iconst (v := 1) hx hb dX1_times_14 (by decide) ?_
      exact hret H locs 15 ls 1 hS hP hD (by rw [X1_times, if_neg c7]) dX1_times_15
    · refine lv_iconst (v := 3) hx hb dX1_times_10 (by decide) ?_
      refine lv_goto (tgt := 15) hx hb dX1_times_11 (by decide) ?_
      exact hret H locs 15 ls 3 hS hP hD (by rw [X1_times, if_pos c7]) dX1_times_15
  exact hW _ _ hP hD hS
def X1_up (nu : Int32) (by_ : Int32) : Int32 := (((nu + by_) - 1) / by_)
abbrev rmX1_up : Room := { frames := 0, cells := 0, slots := 0, locals := 0 }
theorem hd_X1_up : yX1_up.cls ≠ "java/lang/invoke/MethodHandle" ∧ yX1_up.cls ≠ "java/lang/invoke/VarHandle" ∧ (parseMethodDescriptor yX1_up.desc).map (fun d => d.parameters.length) = some 2 := by decide +kernel
set_option maxHeartbeats 4000000 in
set_option maxRecDepth 100000 in
theorem c_X1_up (l : Launch) (dC : Nat → ClassId) (dI : Nat → Nat → Nat) (cI cZ : ClassId) (w : va_W) (nu : Int32) (by_ : Int32) (hb0 : ¬ by_ = 0) : Ki l yX1_up wsX1_up rmX1_up dC dI cI cZ [.int nu, .int by_] w w (X1_up nu by_) := by
  refine k_enter_i (cc := cX1_up) (maxL := 2) (ret := some .int) (by decide) rfl (Nat.le_of_ble_eq_true rfl) ?_
  intro p e s m below meth c A ls hC hr hlocks hK hP hD hS hA hl
  generalize List.toArray _ = args at hC ⊢
  obtain ⟨hx, hb, hml, hown, hts⟩ := id hC
  have hret : ∀ (H : Heap) (locs : List Loc) (pc : Nat) (ls : Array Slot) (r : Int32), va_S A s.heap H locs → va_P (dC, dI) vwCl w H → va_D A w → r = (X1_up nu by_) → decode cX1_up pc = .ok (.ireturn, 1) → W p l e rmX1_up s m args below meth c H locs 0 0 (MQ below (va_Qi (fun r (_ : Unit) => r = (X1_up nu by_)) (kBeh dC dI A w) A) args s 0 0 A) (F0 m pc ls [.int r]) := fun H locs pc ls r hS hP hD hv d => k_iret hx hb hr hlocks hS hP hD hv d
  generalize MQ below _ _ _ _ _ _ = Q at hret ⊢
  have hl : lv_has ls 2 [(0, .int nu), (1, .int by_)] := hl
  have hW : ∀ (H : Heap) (locs : List Loc), va_P (dC, dI) vwCl w H → va_D A w → va_S A s.heap H locs → W p l e rmX1_up s m args below meth c H locs 0 0 Q (F0 m 0 ls []) := by
    intro H locs hP hD hS
    refine lv_iload_n hx hb dX1_up_0 rfl (lv_at hl 0 rfl) ?_
    refine lv_iload_n hx hb dX1_up_1 rfl (lv_at hl 1 rfl) ?_
    refine lv_iadd hx hb dX1_up_2 ?_
    refine lv_iconst (v := 1) hx hb dX1_up_3 (by decide) ?_
    refine lv_isub hx hb dX1_up_4 ?_
    refine lv_iload_n hx hb dX1_up_5 rfl (lv_at hl 1 rfl) ?_
    refine lv_idiv hx hb dX1_up_6 hb0 ?_
    exact hret H locs 7 ls (((nu + by_) - 1) / by_) hS hP hD (by rw [X1_up]) dX1_up_7
  exact hW _ _ hP hD hS
def X1_most (rgr : AR) (rap : AR) (i : Int32) : Int32 := (if (rap i.toNatClampNeg) ≤ (rgr i.toNatClampNeg) then (rap i.toNatClampNeg) else (rgr i.toNatClampNeg))
abbrev rmX1_most : Room := { frames := 0, cells := 0, slots := 0, locals := 0 }
theorem hd_X1_most : yX1_most.cls = RX1 ∧ yX1_most.cls ≠ "java/lang/invoke/MethodHandle" ∧ yX1_most.cls ≠ "java/lang/invoke/VarHandle" ∧ (parseMethodDescriptor yX1_most.desc).map (fun d => d.parameters.length) = some 1 := by decide +kernel
set_option maxHeartbeats 4000000 in
set_option maxRecDepth 100000 in
theorem c_X1_most (l : Launch) (dC : Nat → ClassId) (dI : Nat → Nat → Nat) (cI cZ : ClassId) (h : Nat) (a : Nat → Nat) (rpt : Int32) (rph : AR) (rgr : AR) (rca : AR) (rne : AR) (rap : AR) (rle : AR) (rfu : AR) (rba : Int32) (rru : Int32) (rti : Int32) (rtk : Int32) (rsv : Int32) (rgi : AR) (rpa : AR) (rth : Int32) (i : Int32) (hp : vp_in i 8) : Ki l yX1_most wsX1_most rmX1_most dC dI cI cZ [.ref h, .int i] (mW cI cZ h a rpt rph rgr rca rne rap rle rfu rba rru rti rtk rsv rgi rpa rth) (mW cI cZ h a rpt rph rgr rca rne rap rle rfu rba rru rti rtk rsv rgi rpa rth) (X1_most rgr rap i) := by
  refine k_enter_i (cc := cX1_most) (maxL := 2) (ret := some .int) (by decide) rfl (Nat.le_of_ble_eq_true rfl) ?_
  intro p e s m below meth c A ls hC hr hlocks hK hP hD hS hA hl
  generalize List.toArray _ = args at hC ⊢
  obtain ⟨hx, hb, hml, hown, hts⟩ := id hC
  have hret : ∀ (H : Heap) (locs : List Loc) (pc : Nat) (ls : Array Slot) (r : Int32), va_S A s.heap H locs → va_P (dC, dI) vwCl (mW cI cZ h a rpt rph rgr rca rne rap rle rfu rba rru rti rtk rsv rgi rpa rth) H → va_D A (mW cI cZ h a rpt rph rgr rca rne rap rle rfu rba rru rti rtk rsv rgi rpa rth) → r = (X1_most rgr rap i) → decode cX1_most pc = .ok (.ireturn, 1) → W p l e rmX1_most s m args below meth c H locs 0 0 (MQ below (va_Qi (fun r (_ : Unit) => r = (X1_most rgr rap i)) (kBeh dC dI A (mW cI cZ h a rpt rph rgr rca rne rap rle rfu rba rru rti rtk rsv rgi rpa rth)) A) args s 0 0 A) (F0 m pc ls [.int r]) := fun H locs pc ls r hS hP hD hv d => k_iret hx hb hr hlocks hS hP hD hv d
  generalize MQ below _ _ _ _ _ _ = Q at hret ⊢
  have hin : ∀ w ∈ wsX10, w ∈ wsX1_most := by decide +kernel
  have hw0 := hts (.fieldLink RX1 13 "ChargeParkModel" "greatest" "[I") (by decide +kernel)
  have hw1 := hts (.fieldLink RX1 23 "ChargeParkModel" "appetite" "[I") (by decide +kernel)
  have hl : lv_has ls 2 [(0, .ref h), (1, .int i)] := hl
  have hP : va_P (dC, dI) vwCl (mW cI cZ h a rpt rph rgr rca rne rap rle rfu rba rru rti rtk rsv rgi rpa rth) s.heap := hP
  have hW : ∀ (H : Heap) (locs : List Loc), va_P (dC, dI) vwCl (mW cI cZ h a rpt rph rgr rca rne rap rle rfu rba rru rti rtk rsv rgi rpa rth) H → va_D A (mW cI cZ h a rpt rph rgr rca rne rap rle rfu rba rru rti rtk rsv rgi rpa rth) → va_S A s.heap H locs → W p l e rmX1_most s m args below meth c H locs 0 0 Q (F0 m 0 ls []) := by
    intro H locs hP hD hS
    refine lv_aload_n hx hb dX1_most_0 rfl (lv_at hl 0 rfl) ?_
    refine va_get (D := (dC, dI)) (ci := 1) (v := .ref (a 2)) (C := RX1) (T := TX1) (N := 16) hx hb hts hin hown hK hP 0 rfl rfl 2 (by decide) hw0 (fun _ h9 => h9) rfl dX1_most_1 ?_
    refine lv_iload_n hx hb dX1_most_4 rfl (lv_at hl 1 rfl) ?_
    refine va_iald (f := rgr) hx hb hK hP 2 0 rfl rfl hp dX1_most_5 ?_
    refine lv_aload_n hx hb dX1_most_6 rfl (lv_at hl 0 rfl) ?_
    refine va_get (D := (dC, dI)) (ci := 1) (v := .ref (a 5)) (C := RX1) (T := TX1) (N := 16) hx hb hts hin hown hK hP 0 rfl rfl 5 (by decide) hw1 (fun _ h9 => h9) rfl dX1_most_7 ?_
    refine lv_iload_n hx hb dX1_most_10 rfl (lv_at hl 1 rfl) ?_
    refine va_iald (f := rap) hx hb hK hP 5 0 rfl rfl hp dX1_most_11 ?_
    refine lv_icmp_ge (tgt := 24) hx hb dX1_most_12 (by decide) (fun c12 => ?_) (fun c12 => ?_)
    · refine lv_aload_n hx hb dX1_most_24 rfl (lv_at hl 0 rfl) ?_
      refine va_get (D := (dC, dI)) (ci := 1) (v := .ref (a 5)) (C := RX1) (T := TX1) (N := 16) hx hb hts hin hown hK hP 0 rfl rfl 5 (by decide) hw1 (fun _ h9 => h9) rfl dX1_most_25 ?_
      refine lv_iload_n hx hb dX1_most_28 rfl (lv_at hl 1 rfl) ?_
      refine va_iald (f := rap) hx hb hK hP 5 0 rfl rfl hp dX1_most_29 ?_
      exact hret H locs 30 ls (rap i.toNatClampNeg) hS hP hD (by rw [X1_most, if_pos c12]) dX1_most_30
    · refine lv_aload_n hx hb dX1_most_15 rfl (lv_at hl 0 rfl) ?_
      refine va_get (D := (dC, dI)) (ci := 1) (v := .ref (a 2)) (C := RX1) (T := TX1) (N := 16) hx hb hts hin hown hK hP 0 rfl rfl 2 (by decide) hw0 (fun _ h9 => h9) rfl dX1_most_16 ?_
      refine lv_iload_n hx hb dX1_most_19 rfl (lv_at hl 1 rfl) ?_
      refine va_iald (f := rgr) hx hb hK hP 2 0 rfl rfl hp dX1_most_20 ?_
      refine lv_goto (tgt := 30) hx hb dX1_most_21 (by decide) ?_
      exact hret H locs 30 ls (rgr i.toNatClampNeg) hS hP hD (by rw [X1_most, if_neg c12]) dX1_most_30
  exact hW _ _ hP hD hS
def X1_lax (rph : AR) (rgr : AR) (rne : AR) (rap : AR) (rle : AR) (rti : Int32) (i : Int32) : Int32 := ((X1_stepsLeft rle rti i) - (X1_up (rne i.toNatClampNeg) ((X1_most rgr rap i) * (X1_times rph i))))
abbrev rmX1_lax : Room := { frames := 1, cells := 0, slots := 0, locals := 21 }
theorem hd_X1_lax : yX1_lax.cls = RX1 ∧ yX1_lax.cls ≠ "java/lang/invoke/MethodHandle" ∧ yX1_lax.cls ≠ "java/lang/invoke/VarHandle" ∧ (parseMethodDescriptor yX1_lax.desc).map (fun d => d.parameters.length) = some 1 := by decide +kernel
set_option maxHeartbeats 4000000 in
set_option maxRecDepth 100000 in
theorem c_X1_lax (l : Launch) (dC : Nat → ClassId) (dI : Nat → Nat → Nat) (cI cZ : ClassId) (h : Nat) (a : Nat → Nat) (rpt : Int32) (rph : AR) (rgr : AR) (rca : AR) (rne : AR) (rap : AR) (rle : AR) (rfu : AR) (rba : Int32) (rru : Int32) (rti : Int32) (rtk : Int32) (rsv : Int32) (rgi : AR) (rpa : AR) (rth : Int32) (i : Int32) (hp : vp_in i 8) (hl0 : ¬ (X1_most rgr rap i * X1_times rph i) = 0) : Ki l yX1_lax wsX1_lax rmX1_lax dC dI cI cZ [.ref h, .int i] (mW cI cZ h a rpt rph rgr rca rne rap rle rfu rba rru rti rtk rsv rgi rpa rth) (mW cI cZ h a rpt rph rgr rca rne rap rle rfu rba rru rti rtk rsv rgi rpa rth) (X1_lax rph rgr rne rap rle rti i) := by
  refine k_enter_i (cc := cX1_lax) (maxL := 2) (ret := some .int) (by decide) rfl (Nat.le_of_ble_eq_true rfl) ?_
  intro p e s m below meth c A ls hC hr hlocks hK hP hD hS hA hl
  generalize List.toArray _ = args at hC ⊢
  obtain ⟨hx, hb, hml, hown, hts⟩ := id hC
  have hret : ∀ (H : Heap) (locs : List Loc) (pc : Nat) (ls : Array Slot) (r : Int32), va_S A s.heap H locs → va_P (dC, dI) vwCl (mW cI cZ h a rpt rph rgr rca rne rap rle rfu rba rru rti rtk rsv rgi rpa rth) H → va_D A (mW cI cZ h a rpt rph rgr rca rne rap rle rfu rba rru rti rtk rsv rgi rpa rth) → r = (X1_lax rph rgr rne rap rle rti i) → decode cX1_lax pc = .ok (.ireturn, 1) → W p l e rmX1_lax s m args below meth c H locs 0 0 (MQ below (va_Qi (fun r (_ : Unit) => r = (X1_lax rph rgr rne rap rle rti i)) (kBeh dC dI A (mW cI cZ h a rpt rph rgr rca rne rap rle rfu rba rru rti rtk rsv rgi rpa rth)) A) args s 0 0 A) (F0 m pc ls [.int r]) := fun H locs pc ls r hS hP hD hv d => k_iret hx hb hr hlocks hS hP hD hv d
  generalize MQ below _ _ _ _ _ _ = Q at hret ⊢
  have hin : ∀ w ∈ wsX10, w ∈ wsX1_lax := by decide +kernel
  have hw0 := hts (.fieldLink RX1 20 "ChargeParkModel" "need" "[I") (by decide +kernel)
  have hl : lv_has ls 2 [(0, .ref h), (1, .int i)] := hl
  have hP : va_P (dC, dI) vwCl (mW cI cZ h a rpt rph rgr rca rne rap rle rfu rba rru rti rtk rsv rgi rpa rth) s.heap := hP
  have hW : ∀ (H : Heap) (locs : List Loc), va_P (dC, dI) vwCl (mW cI cZ h a rpt rph rgr rca rne rap rle rfu rba rru rti rtk rsv rgi rpa rth) H → va_D A (mW cI cZ h a rpt rph rgr rca rne rap rle rfu rba rru rti rtk rsv rgi rpa rth) → va_S A s.heap H locs → W p l e rmX1_lax s m args below meth c H locs 0 0 Q (F0 m 0 ls []) := by
    intro H locs hP hD hS
    refine lv_aload_n hx hb dX1_lax_0 rfl (lv_at hl 0 rfl) ?_
    refine lv_iload_n hx hb dX1_lax_1 rfl (lv_at hl 1 rfl) ?_
    refine k_calli (rest := []) (q0 := 0) hC (c_X1_stepsLeft l dC dI cI cZ h a rpt rph rgr rca rne rap rle rfu rba rru rti rtk rsv rgi rpa rth  i hp) (cwV 1 hts gX1_lax_X1_stepsLeft rfl rfl rfl hd_X1_stepsLeft ⟨Nat.le_of_ble_eq_true rfl, Nat.le_of_ble_eq_true rfl⟩) hK hP hD hS hA rfl rfl rfl hl.1 (Nat.le_of_ble_eq_true rfl) dX1_lax_2 rfl ⟨Nat.zero_le _, Nat.zero_le _⟩ (fun H locs hP hD hS => ?_)
    refine lv_aload_n hx hb dX1_lax_5 rfl (lv_at hl 0 rfl) ?_
    refine va_get (D := (dC, dI)) (ci := 1) (v := .ref (a 4)) (C := RX1) (T := TX1) (N := 16) hx hb hts hin hown hK hP 0 rfl rfl 4 (by decide) hw0 (fun _ h9 => h9) rfl dX1_lax_6 ?_
    refine lv_iload_n hx hb dX1_lax_9 rfl (lv_at hl 1 rfl) ?_
    refine va_iald (f := rne) hx hb hK hP 4 0 rfl rfl hp dX1_lax_10 ?_
    refine lv_aload_n hx hb dX1_lax_11 rfl (lv_at hl 0 rfl) ?_
    refine lv_iload_n hx hb dX1_lax_12 rfl (lv_at hl 1 rfl) ?_
    refine k_calli (rest := [.int (rne i.toNatClampNeg), .int (X1_stepsLeft rle rti i)]) (q0 := 0) hC (c_X1_most l dC dI cI cZ h a rpt rph rgr rca rne rap rle rfu rba rru rti rtk rsv rgi rpa rth  i hp) (cwV 1 hts gX1_lax_X1_most rfl rfl rfl hd_X1_most ⟨Nat.le_of_ble_eq_true rfl, Nat.le_of_ble_eq_true rfl⟩) hK hP hD hS hA rfl rfl rfl hl.1 (Nat.le_of_ble_eq_true rfl) dX1_lax_13 rfl ⟨Nat.zero_le _, Nat.zero_le _⟩ (fun H locs hP hD hS => ?_)
    refine lv_aload_n hx hb dX1_lax_16 rfl (lv_at hl 0 rfl) ?_
    refine lv_iload_n hx hb dX1_lax_17 rfl (lv_at hl 1 rfl) ?_
    refine k_calli (rest := [.int (X1_most rgr rap i), .int (rne i.toNatClampNeg), .int (X1_stepsLeft rle rti i)]) (q0 := 0) hC (c_X1_times l dC dI cI cZ h a rpt rph rgr rca rne rap rle rfu rba rru rti rtk rsv rgi rpa rth  i hp) (cwV 1 hts gX1_lax_X1_times rfl rfl rfl hd_X1_times ⟨Nat.le_of_ble_eq_true rfl, Nat.le_of_ble_eq_true rfl⟩) hK hP hD hS hA rfl rfl rfl hl.1 (Nat.le_of_ble_eq_true rfl) dX1_lax_18 rfl ⟨Nat.zero_le _, Nat.zero_le _⟩ (fun H locs hP hD hS => ?_)
    refine lv_imul hx hb dX1_lax_21 ?_
    refine k_calls (rest := [.int (X1_stepsLeft rle rti i)]) (As := [.int (rne i.toNatClampNeg), .int ((X1_most rgr rap i) * (X1_times rph i))]) hC (c_X1_up l dC dI cI cZ (mW cI cZ h a rpt rph rgr rca rne rap rle rfu rba rru rti rtk rsv rgi rpa rth) (rne i.toNatClampNeg) ((X1_most rgr rap i) * (X1_times rph i)) hl0) (va_cwS 2 hts gX1_lax_X1_up rfl rfl rfl hd_X1_up ⟨Nat.le_of_ble_eq_true rfl, Nat.le_of_ble_eq_true rfl⟩) hK hP hD hS hA rfl hl.1 (Nat.le_of_ble_eq_true rfl) dX1_lax_22 rfl ⟨Nat.zero_le _, Nat.zero_le _⟩ (fun H locs hP hD hS => ?_)
    refine lv_isub hx hb dX1_lax_25 ?_
    exact hret H locs 26 ls ((X1_stepsLeft rle rti i) - (X1_up (rne i.toNatClampNeg) ((X1_most rgr rap i) * (X1_times rph i)))) hS hP hD (by rw [X1_lax]) dX1_lax_26
  exact hW _ _ hP hD hS
theorem X1_times_nz (rph : AR) (i : Int32) : ¬ X1_times rph i = 0 := by
  rw [X1_times]
  split <;> decide
def X1_reaches (rph : AR) (rgr : AR) (rca : AR) (rne : AR) (rap : AR) (rle : AR) (rti : Int32) (i : Int32) : Int32 := (if (X1_most rgr rap i) ≤ (X1_up (rne i.toNatClampNeg) (X1_times rph i)) then (if (rca i.toNatClampNeg) = 0 then 0 else (if (X1_stepsLeft rle rti i) ≤ 0 then 0 else (X1_most rgr rap i))) else (if (rca i.toNatClampNeg) = 0 then 0 else (if (X1_stepsLeft rle rti i) ≤ 0 then 0 else (X1_up (rne i.toNatClampNeg) (X1_times rph i)))))
abbrev rmX1_reaches : Room := { frames := 1, cells := 0, slots := 0, locals := 21 }
theorem hd_X1_reaches : yX1_reaches.cls = RX1 ∧ yX1_reaches.cls ≠ "java/lang/invoke/MethodHandle" ∧ yX1_reaches.cls ≠ "java/lang/invoke/VarHandle" ∧ (parseMethodDescriptor yX1_reaches.desc).map (fun d => d.parameters.length) = some 1 := by decide +kernel
set_option maxHeartbeats 4000000 in
set_option maxRecDepth 100000 in
theorem c_X1_reaches (l : Launch) (dC : Nat → ClassId) (dI : Nat → Nat → Nat) (cI cZ : ClassId) (h : Nat) (a : Nat → Nat) (rpt : Int32) (rph : AR) (rgr : AR) (rca : AR) (rne : AR) (rap : AR) (rle : AR) (rfu : AR) (rba : Int32) (rru : Int32) (rti : Int32) (rtk : Int32) (rsv : Int32) (rgi : AR) (rpa : AR) (rth : Int32) (i : Int32) (hp : vp_in i 8) : Ki l yX1_reaches wsX1_reaches rmX1_reaches dC dI cI cZ [.ref h, .int i] (mW cI cZ h a rpt rph rgr rca rne rap rle rfu rba rru rti rtk rsv rgi rpa rth) (mW cI cZ h a rpt rph rgr rca rne rap rle rfu rba rru rti rtk rsv rgi rpa rth) (X1_reaches rph rgr rca rne rap rle rti i) := by
  refine k_enter_i (cc := cX1_reaches) (maxL := 4) (ret := some .int) (by decide) rfl (Nat.le_of_ble_eq_true rfl) ?_
  intro p e s m below meth c A ls hC hr hlocks hK hP hD hS hA hl
  generalize List.toArray _ = args at hC ⊢
  obtain ⟨hx, hb, hml, hown, hts⟩ := id hC
  have hret : ∀ (H : Heap) (locs : List Loc) (pc : Nat) (ls : Array Slot) (r : Int32), va_S A s.heap H locs → va_P (dC, dI) vwCl (mW cI cZ h a rpt rph rgr rca rne rap rle rfu rba rru rti rtk rsv rgi rpa rth) H → va_D A (mW cI cZ h a rpt rph rgr rca rne rap rle rfu rba rru rti rtk rsv rgi rpa rth) → r = (X1_reaches rph rgr rca rne rap rle rti i) → decode cX1_reaches pc = .ok (.ireturn, 1) → W p l e rmX1_reaches s m args below meth c H locs 0 0 (MQ below (va_Qi (fun r (_ : Unit) => r = (X1_reaches rph rgr rca rne rap rle rti i)) (kBeh dC dI A (mW cI cZ h a rpt rph rgr rca rne rap rle rfu rba rru rti rtk rsv rgi rpa rth)) A) args s 0 0 A) (F0 m pc ls [.int r]) := fun H locs pc ls r hS hP hD hv d => k_iret hx hb hr hlocks hS hP hD hv d
  generalize MQ below _ _ _ _ _ _ = Q at hret ⊢
  have hin : ∀ w ∈ wsX10, w ∈ wsX1_reaches := by decide +kernel
  have hw0 := hts (.fieldLink RX1 20 "ChargeParkModel" "need" "[I") (by decide +kernel)
  have hw1 := hts (.fieldLink RX1 16 "ChargeParkModel" "car" "[Z") (by decide +kernel)
  have hl : lv_has ls 4 [(0, .ref h), (1, .int i)] := hl
  have hP : va_P (dC, dI) vwCl (mW cI cZ h a rpt rph rgr rca rne rap rle rfu rba rru rti rtk rsv rgi rpa rth) s.heap := hP
  have hW : ∀ (H : Heap) (locs : List Loc), va_P (dC, dI) vwCl (mW cI cZ h a rpt rph rgr rca rne rap rle rfu rba rru rti rtk rsv rgi rpa rth) H → va_D A (mW cI cZ h a rpt rph rgr rca rne rap rle rfu rba rru rti rtk rsv rgi rpa rth) → va_S A s.heap H locs → W p l e rmX1_reaches s m args below meth c H locs 0 0 Q (F0 m 0 ls []) := by
    intro H locs hP hD hS
    refine lv_aload_n hx hb dX1_reaches_0 rfl (lv_at hl 0 rfl) ?_
    refine va_get (D := (dC, dI)) (ci := 1) (v := .ref (a 4)) (C := RX1) (T := TX1) (N := 16) hx hb hts hin hown hK hP 0 rfl rfl 4 (by decide) hw0 (fun _ h9 => h9) rfl dX1_reaches_1 ?_
    refine lv_iload_n hx hb dX1_reaches_4 rfl (lv_at hl 1 rfl) ?_
    refine va_iald (f := rne) hx hb hK hP 4 0 rfl rfl hp dX1_reaches_5 ?_
    refine lv_aload_n hx hb dX1_reaches_6 rfl (lv_at hl 0 rfl) ?_
    refine lv_iload_n hx hb dX1_reaches_7 rfl (lv_at hl 1 rfl) ?_
    refine k_calli (rest := [.int (rne i.toNatClampNeg)]) (q0 := 0) hC (c_X1_times l dC dI cI cZ h a rpt rph rgr rca rne rap rle rfu rba rru rti rtk rsv rgi rpa rth  i hp) (cwV 1 hts gX1_reaches_X1_times rfl rfl rfl hd_X1_times ⟨Nat.le_of_ble_eq_true rfl, Nat.le_of_ble_eq_true rfl⟩) hK hP hD hS hA rfl rfl rfl hl.1 (Nat.le_of_ble_eq_true rfl) dX1_reaches_8 rfl ⟨Nat.zero_le _, Nat.zero_le _⟩ (fun H locs hP hD hS => ?_)
    refine k_calls (rest := []) (As := [.int (rne i.toNatClampNeg), .int (X1_times rph i)]) hC (c_X1_up l dC dI cI cZ (mW cI cZ h a rpt rph rgr rca rne rap rle rfu rba rru rti rtk rsv rgi rpa rth) (rne i.toNatClampNeg) (X1_times rph i) (X1_times_nz _ _)) (va_cwS 2 hts gX1_reaches_X1_up rfl rfl rfl hd_X1_up ⟨Nat.le_of_ble_eq_true rfl, Nat.le_of_ble_eq_true rfl⟩) hK hP hD hS hA rfl hl.1 (Nat.le_of_ble_eq_true rfl) dX1_reaches_11 rfl ⟨Nat.zero_le _, Nat.zero_le _⟩ (fun H locs hP hD hS => ?_)
    refine lv_istore_n (lv' := [(2, .int (X1_up (rne i.toNatClampNeg) (X1_times rph i))), (0, .ref h), (1, .int i)]) hx hb dX1_reaches_14 rfl hl (by decide) rfl (fun ls hl => ?_)
    refine lv_iload_n hx hb dX1_reaches_15 rfl (lv_at hl 0 rfl) ?_
    refine lv_aload_n hx hb dX1_reaches_16 rfl (lv_at hl 1 rfl) ?_
    refine lv_iload_n hx hb dX1_reaches_17 rfl (lv_at hl 2 rfl) ?_
    refine k_calli (rest := [.int (X1_up (rne i.toNatClampNeg) (X1_times rph i))]) (q0 := 0) hC (c_X1_most l dC dI cI cZ h a rpt rph rgr rca rne rap rle rfu rba rru rti rtk rsv rgi rpa rth  i hp) (cwV 1 hts gX1_reaches_X1_most rfl rfl rfl hd_X1_most ⟨Nat.le_of_ble_eq_true rfl, Nat.le_of_ble_eq_true rfl⟩) hK hP hD hS hA rfl rfl rfl hl.1 (Nat.le_of_ble_eq_true rfl) dX1_reaches_18 rfl ⟨Nat.zero_le _, Nat.zero_le _⟩ (fun H locs hP hD hS => ?_)
    refine lv_icmp_ge (tgt := 28) hx hb dX1_reaches_21 (by decide) (fun c21 => ?_) (fun c21 => ?_)
    · refine lv_aload_n hx hb dX1_reaches_28 rfl (lv_at hl 1 rfl) ?_
      refine lv_iload_n hx hb dX1_reaches_29 rfl (lv_at hl 2 rfl) ?_
      refine k_calli (rest := []) (q0 := 0) hC (c_X1_most l dC dI cI cZ h a rpt rph rgr rca rne rap rle rfu rba rru rti rtk rsv rgi rpa rth  i hp) (cwV 1 hts gX1_reaches_X1_most rfl rfl rfl hd_X1_most ⟨Nat.le_of_ble_eq_true rfl, Nat.le_of_ble_eq_true rfl⟩) hK hP hD hS hA rfl rfl rfl hl.1 (Nat.le_of_ble_eq_true rfl) dX1_reaches_30 rfl ⟨Nat.zero_le _, Nat.zero_le _⟩ (fun H locs hP hD hS => ?_)
      refine lv_istore_n (lv' := [(3, .int (X1_most rgr rap i)), (2, .int (X1_up (rne i.toNatClampNeg) (X1_times rph i))), (0, .ref h), (1, .int i)]) hx hb dX1_reaches_33 rfl hl (by decide) rfl (fun ls hl => ?_)
      refine lv_aload_n hx hb dX1_reaches_34 rfl (lv_at hl 2 rfl) ?_
      refine va_get (D := (dC, dI)) (ci := 1) (v := .ref (a 3)) (C := RX1) (T := TX1) (N := 16) hx hb hts hin hown hK hP 0 rfl rfl 3 (by decide) hw1 (fun _ h9 => h9) rfl dX1_reaches_35 ?_
      refine lv_iload_n hx hb dX1_reaches_38 rfl (lv_at hl 3 rfl) ?_
      refine va_zald (f := rca) hx hb hK hP 3 1 rfl rfl hp dX1_reaches_39 ?_
      refine lv_if_eq (tgt := 55) hx hb dX1_reaches_40 (by decide) (fun c40 => ?_) (fun c40 => ?_)
      · refine lv_iconst (v := 0) hx hb dX1_reaches_55 (by decide) ?_
        exact hret H locs 56 ls 0 hS hP hD (by rw [X1_reaches, if_pos c21, if_pos c40]) dX1_reaches_56
      · refine lv_aload_n hx hb dX1_reaches_43 rfl (lv_at hl 2 rfl) ?_
        refine lv_iload_n hx hb dX1_reaches_44 rfl (lv_at hl 3 rfl) ?_
        refine k_calli (rest := []) (q0 := 0) hC (c_X1_stepsLeft l dC dI cI cZ h a rpt rph rgr rca rne rap rle rfu rba rru rti rtk rsv rgi rpa rth  i hp) (cwV 1 hts gX1_reaches_X1_stepsLeft rfl rfl rfl hd_X1_stepsLeft ⟨Nat.le_of_ble_eq_true rfl, Nat.le_of_ble_eq_true rfl⟩) hK hP hD hS hA rfl rfl rfl hl.1 (Nat.le_of_ble_eq_true rfl) dX1_reaches_45 rfl ⟨Nat.zero_le _, Nat.zero_le _⟩ (fun H locs hP hD hS => ?_)
        refine lv_if_le (tgt := 55) hx hb dX1_reaches_48 (by decide) (fun c48 => ?_) (fun c48 => ?_)
        · refine lv_iconst (v := 0) hx hb dX1_reaches_55 (by decide) ?_
          exact hret H locs 56 ls 0 hS hP hD (by rw [X1_reaches, if_pos c21, if_neg c40, if_pos c48]) dX1_reaches_56
        · refine lv_iload_n hx hb dX1_reaches_51 rfl (lv_at hl 0 rfl) ?_
          refine lv_goto (tgt := 56) hx hb dX1_reaches_52 (by decide) ?_
          exact hret H locs 56 ls (X1_most rgr rap i) hS hP hD (by rw [X1_reaches, if_pos c21, if_neg c40, if_neg c48]) dX1_reaches_56
    · refine lv_iload_n hx hb dX1_reaches_24 rfl (lv_at hl 0 rfl) ?_
      refine lv_goto (tgt := 33) hx hb dX1_reaches_25 (by decide) ?_
      refine lv_istore_n (lv' := [(3, .int (X1_up (rne i.toNatClampNeg) (X1_times rph i))), (2, .int (X1_up (rne i.toNatClampNeg) (X1_times rph i))), (0, .ref h), (1, .int i)]) hx hb dX1_reaches_33 rfl hl (by decide) rfl (fun ls hl => ?_)
      refine lv_aload_n hx hb dX1_reaches_34 rfl (lv_at hl 2 rfl) ?_
      refine va_get (D := (dC, dI)) (ci := 1) (v := .ref (a 3)) (C := RX1) (T := TX1) (N := 16) hx hb hts hin hown hK hP 0 rfl rfl 3 (by decide) hw1 (fun _ h9 => h9) rfl dX1_reaches_35 ?_
      refine lv_iload_n hx hb dX1_reaches_38 rfl (lv_at hl 3 rfl) ?_
      refine va_zald (f := rca) hx hb hK hP 3 1 rfl rfl hp dX1_reaches_39 ?_
      refine lv_if_eq (tgt := 55) hx hb dX1_reaches_40 (by decide) (fun c40 => ?_) (fun c40 => ?_)
      · refine lv_iconst (v := 0) hx hb dX1_reaches_55 (by decide) ?_
        exact hret H locs 56 ls 0 hS hP hD (by rw [X1_reaches, if_neg c21, if_pos c40]) dX1_reaches_56
      · refine lv_aload_n hx hb dX1_reaches_43 rfl (lv_at hl 2 rfl) ?_
        refine lv_iload_n hx hb dX1_reaches_44 rfl (lv_at hl 3 rfl) ?_
        refine k_calli (rest := []) (q0 := 0) hC (c_X1_stepsLeft l dC dI cI cZ h a rpt rph rgr rca rne rap rle rfu rba rru rti rtk rsv rgi rpa rth  i hp) (cwV 1 hts gX1_reaches_X1_stepsLeft rfl rfl rfl hd_X1_stepsLeft ⟨Nat.le_of_ble_eq_true rfl, Nat.le_of_ble_eq_true rfl⟩) hK hP hD hS hA rfl rfl rfl hl.1 (Nat.le_of_ble_eq_true rfl) dX1_reaches_45 rfl ⟨Nat.zero_le _, Nat.zero_le _⟩ (fun H locs hP hD hS => ?_)
        refine lv_if_le (tgt := 55) hx hb dX1_reaches_48 (by decide) (fun c48 => ?_) (fun c48 => ?_)
        · refine lv_iconst (v := 0) hx hb dX1_reaches_55 (by decide) ?_
          exact hret H locs 56 ls 0 hS hP hD (by rw [X1_reaches, if_neg c21, if_neg c40, if_pos c48]) dX1_reaches_56
        · refine lv_iload_n hx hb dX1_reaches_51 rfl (lv_at hl 0 rfl) ?_
          refine lv_goto (tgt := 56) hx hb dX1_reaches_52 (by decide) ?_
          exact hret H locs 56 ls (X1_up (rne i.toNatClampNeg) (X1_times rph i)) hS hP hD (by rw [X1_reaches, if_neg c21, if_neg c40, if_neg c48]) dX1_reaches_56
  exact hW _ _ hP hD hS
theorem X1_reaches_car {rph rgr rca rne rap rle : AR} {rti : Int32} {i : Int32} (h : ¬ X1_reaches rph rgr rca rne rap rle rti i ≤ 0) : ¬ rca i.toNatClampNeg = 0 := by
  intro e
  apply h
  rw [X1_reaches]
  split
  · decide
  · decide
def X1_isPoint (rpt : Int32) (i : Int32) : Int32 × Int32 := (if (X1_isIn i 0 (rpt - 1)) = 0 then (0, 1) else (1, 0))
abbrev rmX1_isPoint : Room := { frames := 1, cells := 0, slots := 0, locals := 22 }
theorem hd_X1_isPoint : yX1_isPoint.cls = RX1 ∧ yX1_isPoint.cls ≠ "java/lang/invoke/MethodHandle" ∧ yX1_isPoint.cls ≠ "java/lang/invoke/VarHandle" ∧ (parseMethodDescriptor yX1_isPoint.desc).map (fun d => d.parameters.length) = some 1 := by decide +kernel
set_option maxHeartbeats 4000000 in
set_option maxRecDepth 100000 in
theorem c_X1_isPoint (l : Launch) (dC : Nat → ClassId) (dI : Nat → Nat → Nat) (cI cZ : ClassId) (h : Nat) (a : Nat → Nat) (rpt : Int32) (rph : AR) (rgr : AR) (rca : AR) (rne : AR) (rap : AR) (rle : AR) (rfu : AR) (rba : Int32) (rru : Int32) (rti : Int32) (rtk : Int32) (rsv : Int32) (rgi : AR) (rpa : AR) (rth : Int32) (i : Int32) : Ki l yX1_isPoint wsX1_isPoint rmX1_isPoint dC dI cI cZ [.ref h, .int i] (mW cI cZ h a rpt rph rgr rca rne rap rle rfu rba rru rti rtk rsv rgi rpa rth) (mW cI cZ h a rpt rph rgr rca rne rap rle rfu rba rru rti rtk rsv rgi rpa ((X1_isPoint rpt i).2)) (X1_isPoint rpt i).1 := by
  refine k_enter_i (cc := cX1_isPoint) (maxL := 2) (ret := some .boolean) (by decide) rfl (Nat.le_of_ble_eq_true rfl) ?_
  intro p e s m below meth c A ls hC hr hlocks hK hP hD hS hA hl
  generalize List.toArray _ = args at hC ⊢
  obtain ⟨hx, hb, hml, hown, hts⟩ := id hC
  have hret : ∀ (H : Heap) (locs : List Loc) (pc : Nat) (ls : Array Slot) (r : Int32), va_S A s.heap H locs → va_P (dC, dI) vwCl (mW cI cZ h a rpt rph rgr rca rne rap rle rfu rba rru rti rtk rsv rgi rpa ((X1_isPoint rpt i).2)) H → va_D A (mW cI cZ h a rpt rph rgr rca rne rap rle rfu rba rru rti rtk rsv rgi rpa ((X1_isPoint rpt i).2)) → r = (X1_isPoint rpt i).1 → (r = 0 ∨ r = 1) → decode cX1_isPoint pc = .ok (.ireturn, 1) → W p l e rmX1_isPoint s m args below meth c H locs 0 0 (MQ below (va_Qi (fun r (_ : Unit) => r = (X1_isPoint rpt i).1) (kBeh dC dI A (mW cI cZ h a rpt rph rgr rca rne rap rle rfu rba rru rti rtk rsv rgi rpa ((X1_isPoint rpt i).2))) A) args s 0 0 A) (F0 m pc ls [.int r]) := fun H locs pc ls r hS hP hD hv hz d => k_zret hx hb hr hlocks hS hP hD hv hz d
  generalize MQ below _ _ _ _ _ _ = Q at hret ⊢
  have hin : ∀ w ∈ wsX10, w ∈ wsX1_isPoint := by decide +kernel
  have hw0 := hts (.fieldLink RX1 49 "ChargeParkModel" "points" "I") (by decide +kernel)
  have hw1 := hts (.fieldLink RX1 42 "ChargeParkModel" "thrown" "I") (by decide +kernel)
  have hl : lv_has ls 2 [(0, .ref h), (1, .int i)] := hl
  have hP : va_P (dC, dI) vwCl (mW cI cZ h a rpt rph rgr rca rne rap rle rfu rba rru rti rtk rsv rgi rpa rth) s.heap := hP
  have hW : ∀ (H : Heap) (locs : List Loc), va_P (dC, dI) vwCl (mW cI cZ h a rpt rph rgr rca rne rap rle rfu rba rru rti rtk rsv rgi rpa rth) H → va_D A (mW cI cZ h a rpt rph rgr rca rne rap rle rfu rba rru rti rtk rsv rgi rpa rth) → va_S A s.heap H locs → W p l e rmX1_isPoint s m args below meth c H locs 0 0 Q (F0 m 0 ls []) := by
    intro H locs hP hD hS
    refine lv_aload_n hx hb dX1_isPoint_0 rfl (lv_at hl 0 rfl) ?_
    refine lv_iload_n hx hb dX1_isPoint_1 rfl (lv_at hl 1 rfl) ?_
    refine lv_iconst (v := 0) hx hb dX1_isPoint_2 (by decide) ?_
    refine lv_aload_n hx hb dX1_isPoint_3 rfl (lv_at hl 0 rfl) ?_
    refine va_get (D := (dC, dI)) (ci := 1) (v := .int rpt) (C := RX1) (T := TX1) (N := 16) hx hb hts hin hown hK hP 0 rfl rfl 0 (by decide) hw0 (fun _ h9 => h9) rfl dX1_isPoint_4 ?_
    refine lv_iconst (v := 1) hx hb dX1_isPoint_7 (by decide) ?_
    refine lv_isub hx hb dX1_isPoint_8 ?_
    refine k_calls (rest := [.ref h]) (As := [.int i, .int 0, .int (rpt - 1)]) hC (c_X1_isIn l dC dI cI cZ (mW cI cZ h a rpt rph rgr rca rne rap rle rfu rba rru rti rtk rsv rgi rpa rth) i 0 (rpt - 1) ) (va_cwS 3 hts gX1_isPoint_X1_isIn rfl rfl rfl hd_X1_isIn ⟨Nat.le_of_ble_eq_true rfl, Nat.le_of_ble_eq_true rfl⟩) hK hP hD hS hA rfl hl.1 (Nat.le_of_ble_eq_true rfl) dX1_isPoint_9 rfl ⟨Nat.zero_le _, Nat.zero_le _⟩ (fun H locs hP hD hS => ?_)
    refine lv_if_eq (tgt := 19) hx hb dX1_isPoint_12 (by decide) (fun c12 => ?_) (fun c12 => ?_)
    · refine lv_iconst (v := 1) hx hb dX1_isPoint_19 (by decide) ?_
      refine va_put (D := (dC, dI)) (ci := 1) (v := .int 1) (ty := .int) (C := RX1) (T := TX1) (N := 16) hx hb hts hin tyX1 tyX1_ok nmX1 hown hK hP hD hS 0 rfl rfl 15 (by decide) hw1 (fun _ h9 => h9) rfl mfd15 rfl rfl (Nat.le_of_ble_eq_true rfl) dX1_isPoint_20 (fun H locs hP hD hS => ?_)
      have hP : va_P (dC, dI) vwCl (mW cI cZ h a rpt rph rgr rca rne rap rle rfu rba rru rti rtk rsv rgi rpa 1) H := hP
      have hD : va_D A (mW cI cZ h a rpt rph rgr rca rne rap rle rfu rba rru rti rtk rsv rgi rpa 1) := hD
      refine lv_aload_n hx hb dX1_isPoint_23 rfl (lv_at hl 0 rfl) ?_
      refine va_get (D := (dC, dI)) (ci := 1) (v := .int 1) (C := RX1) (T := TX1) (N := 16) hx hb hts hin hown hK hP 0 rfl rfl 15 (by decide) hw1 (fun _ h9 => h9) rfl dX1_isPoint_24 ?_
      refine lv_if_ne (tgt := 34) hx hb dX1_isPoint_27 (by decide) (fun _ => ?_) (fun c => absurd c (by decide))
      refine lv_iconst (v := 0) hx hb dX1_isPoint_34 (by decide) ?_
      have hP8 : va_P (dC, dI) vwCl (mW cI cZ h a rpt rph rgr rca rne rap rle rfu rba rru rti rtk rsv rgi rpa ((X1_isPoint rpt i).2)) H := by rw [X1_isPoint, if_pos c12]; exact hP
      have hD8 : va_D A (mW cI cZ h a rpt rph rgr rca rne rap rle rfu rba rru rti rtk rsv rgi rpa ((X1_isPoint rpt i).2)) := by rw [X1_isPoint, if_pos c12]; exact hD
      exact hret H locs 35 ls 0 hS hP8 hD8 (by rw [X1_isPoint, if_pos c12]) (Or.inl rfl) dX1_isPoint_35
    · refine lv_iconst (v := 0) hx hb dX1_isPoint_15 (by decide) ?_
      refine lv_goto (tgt := 20) hx hb dX1_isPoint_16 (by decide) ?_
      refine va_put (D := (dC, dI)) (ci := 1) (v := .int 0) (ty := .int) (C := RX1) (T := TX1) (N := 16) hx hb hts hin tyX1 tyX1_ok nmX1 hown hK hP hD hS 0 rfl rfl 15 (by decide) hw1 (fun _ h9 => h9) rfl mfd15 rfl rfl (Nat.le_of_ble_eq_true rfl) dX1_isPoint_20 (fun H locs hP hD hS => ?_)
      have hP : va_P (dC, dI) vwCl (mW cI cZ h a rpt rph rgr rca rne rap rle rfu rba rru rti rtk rsv rgi rpa 0) H := hP
      have hD : va_D A (mW cI cZ h a rpt rph rgr rca rne rap rle rfu rba rru rti rtk rsv rgi rpa 0) := hD
      refine lv_aload_n hx hb dX1_isPoint_23 rfl (lv_at hl 0 rfl) ?_
      refine va_get (D := (dC, dI)) (ci := 1) (v := .int 0) (C := RX1) (T := TX1) (N := 16) hx hb hts hin hown hK hP 0 rfl rfl 15 (by decide) hw1 (fun _ h9 => h9) rfl dX1_isPoint_24 ?_
      refine lv_if_ne (tgt := 34) hx hb dX1_isPoint_27 (by decide) (fun c => absurd (by decide) c) (fun _ => ?_)
      refine lv_iconst (v := 1) hx hb dX1_isPoint_30 (by decide) ?_
      refine lv_goto (tgt := 35) hx hb dX1_isPoint_31 (by decide) ?_
      have hP8 : va_P (dC, dI) vwCl (mW cI cZ h a rpt rph rgr rca rne rap rle rfu rba rru rti rtk rsv rgi rpa ((X1_isPoint rpt i).2)) H := by rw [X1_isPoint, if_neg c12]; exact hP
      have hD8 : va_D A (mW cI cZ h a rpt rph rgr rca rne rap rle rfu rba rru rti rtk rsv rgi rpa ((X1_isPoint rpt i).2)) := by rw [X1_isPoint, if_neg c12]; exact hD
      exact hret H locs 35 ls 1 hS hP8 hD8 (by rw [X1_isPoint, if_neg c12]) (Or.inr rfl) dX1_isPoint_35
  exact hW _ _ hP hD hS
