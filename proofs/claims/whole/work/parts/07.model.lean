/-- what the model's points and cars keep -/
def mI (rgr rca rap : AR) (n : Nat) : Prop := ∀ k, k < n → (6 ≤ (rgr k).toInt ∧ (rgr k).toInt ≤ 32) ∧ (¬ rca k = 0 → 1 ≤ (rap k).toInt ∧ (rap k).toInt ≤ 32)
theorem X1_most_rng {rgr rap : AR} {i : Int32} (hg : 6 ≤ (rgr i.toNatClampNeg).toInt ∧ (rgr i.toNatClampNeg).toInt ≤ 32) (ha : 1 ≤ (rap i.toNatClampNeg).toInt ∧ (rap i.toNatClampNeg).toInt ≤ 32) : 1 ≤ (X1_most rgr rap i).toInt ∧ (X1_most rgr rap i).toInt ≤ 32 := by
  rw [X1_most]
  split
  · exact ⟨ha.1, ha.2⟩
  · exact ⟨by omega, hg.2⟩
theorem X1_times_c (rph : AR) (i : Int32) : X1_times rph i = 1 ∨ X1_times rph i = 3 := by
  rw [X1_times]
  split
  · exact Or.inr rfl
  · exact Or.inl rfl
theorem X1_mt_nz {rph rgr rap : AR} {i : Int32} (hg : 6 ≤ (rgr i.toNatClampNeg).toInt ∧ (rgr i.toNatClampNeg).toInt ≤ 32) (ha : 1 ≤ (rap i.toNatClampNeg).toInt ∧ (rap i.toNatClampNeg).toInt ≤ 32) : ¬ (X1_most rgr rap i * X1_times rph i) = 0 := by
  have h := X1_most_rng hg ha
  obtain ⟨j, hj, e⟩ := nI_of2 (x := X1_most rgr rap i) (M := 32) (n := 32) rfl (by rw [Int32.lt_iff_toInt_lt]; show ¬ _ < (0 : Int); omega) (by rw [Int32.le_iff_toInt_le]; exact h.2)
  have hj1 : 1 ≤ j := by
    have : (X1_most rgr rap i).toInt = (j : Int) := by rw [e]; exact nI_toInt (by omega)
    omega
  rw [e]
  rcases X1_times_c rph i with q | q <;> rw [q]
  · show ¬ nI j * nI 1 = 0
    rw [pk_mul]
    exact nI_ne0 (by omega) (by omega)
  · show ¬ nI j * nI 3 = 0
    rw [pk_mul]
    exact nI_ne0 (by omega) (by omega)
theorem mI_nz {rph rgr rca rap : AR} {n k : Nat} (hI : mI rgr rca rap n) (hk : k < n) (hn : n ≤ 8) (hc : ¬ rca (nI k).toNatClampNeg = 0) : ¬ (X1_most rgr rap (nI k) * X1_times rph (nI k)) = 0 := by
  have e : (nI k).toNatClampNeg = k := nI_clamp (by omega)
  rw [e] at hc
  have h := hI k hk
  exact X1_mt_nz (by rw [e]; exact h.1) (by rw [e]; exact h.2 hc)
def X1_flows_L4 (rph : AR) (rgi : AR) (n : Nat) (f : Int32) : Nat → Nat → Int32 → Int32
  | 0, k, su => su
  | j + 1, k, su => (if (rph (nI k).toNatClampNeg) = f then X1_flows_L4 rph rgi n f  j (k + 1) (su + (rgi (nI k).toNatClampNeg)) else (if (rph (nI k).toNatClampNeg) = 3 then X1_flows_L4 rph rgi n f  j (k + 1) (su + (rgi (nI k).toNatClampNeg)) else X1_flows_L4 rph rgi n f  j (k + 1) (su + 0)))
def X1_flows (rph : AR) (rgi : AR) (n : Nat) (f : Int32) : Int32 := ((X1_flows_L4 rph rgi n f  n 0 0))
abbrev rmX1_flows : Room := { frames := 0, cells := 0, slots := 0, locals := 0 }
theorem hd_X1_flows : yX1_flows.cls = RX1 ∧ yX1_flows.cls ≠ "java/lang/invoke/MethodHandle" ∧ yX1_flows.cls ≠ "java/lang/invoke/VarHandle" ∧ (parseMethodDescriptor yX1_flows.desc).map (fun d => d.parameters.length) = some 1 := by decide +kernel
set_option maxHeartbeats 4000000 in
set_option maxRecDepth 100000 in
theorem c_X1_flows (l : Launch) (dC : Nat → ClassId) (dI : Nat → Nat → Nat) (cI cZ : ClassId) (h : Nat) (a : Nat → Nat) (rpt : Int32) (rph : AR) (rgr : AR) (rca : AR) (rne : AR) (rap : AR) (rle : AR) (rfu : AR) (rba : Int32) (rru : Int32) (rti : Int32) (rtk : Int32) (rsv : Int32) (rgi : AR) (rpa : AR) (rth : Int32) (n : Nat) (f : Int32) (hpc : rpt = nI n) (hn : n ≤ 8) : Ki l yX1_flows wsX1_flows rmX1_flows dC dI cI cZ [.ref h, .int f] (mW cI cZ h a rpt rph rgr rca rne rap rle rfu rba rru rti rtk rsv rgi rpa rth) (mW cI cZ h a rpt rph rgr rca rne rap rle rfu rba rru rti rtk rsv rgi rpa rth) (X1_flows rph rgi n f) := by
  refine k_enter_i (cc := cX1_flows) (maxL := 4) (ret := some .int) (by decide) rfl (Nat.le_of_ble_eq_true rfl) ?_
  intro p e s m below meth c A ls hC hr hlocks hK hP hD hS hA hl
  generalize List.toArray _ = args at hC ⊢
  obtain ⟨hx, hb, hml, hown, hts⟩ := id hC
  have hret : ∀ (H : Heap) (locs : List Loc) (pc : Nat) (ls : Array Slot) (r : Int32), va_S A s.heap H locs → va_P (dC, dI) vwCl (mW cI cZ h a rpt rph rgr rca rne rap rle rfu rba rru rti rtk rsv rgi rpa rth) H → va_D A (mW cI cZ h a rpt rph rgr rca rne rap rle rfu rba rru rti rtk rsv rgi rpa rth) → r = (X1_flows rph rgi n f) → decode cX1_flows pc = .ok (.ireturn, 1) → W p l e rmX1_flows s m args below meth c H locs 0 0 (MQ below (va_Qi (fun r (_ : Unit) => r = (X1_flows rph rgi n f)) (kBeh dC dI A (mW cI cZ h a rpt rph rgr rca rne rap rle rfu rba rru rti rtk rsv rgi rpa rth)) A) args s 0 0 A) (F0 m pc ls [.int r]) := fun H locs pc ls r hS hP hD hv d => k_iret hx hb hr hlocks hS hP hD hv d
  generalize MQ below _ _ _ _ _ _ = Q at hret ⊢
  have hin : ∀ w ∈ wsX10, w ∈ wsX1_flows := by decide +kernel
  have hw0 := hts (.fieldLink RX1 49 "ChargeParkModel" "points" "I") (by decide +kernel)
  have hw1 := hts (.fieldLink RX1 7 "ChargeParkModel" "phase" "[I") (by decide +kernel)
  have hw2 := hts (.fieldLink RX1 36 "ChargeParkModel" "given" "[I") (by decide +kernel)
  have hl : lv_has ls 4 [(0, .ref h), (1, .int f)] := hl
  have hP : va_P (dC, dI) vwCl (mW cI cZ h a rpt rph rgr rca rne rap rle rfu rba rru rti rtk rsv rgi rpa rth) s.heap := hP
  have hW : ∀ (H : Heap) (locs : List Loc), va_P (dC, dI) vwCl (mW cI cZ h a rpt rph rgr rca rne rap rle rfu rba rru rti rtk rsv rgi rpa rth) H → va_D A (mW cI cZ h a rpt rph rgr rca rne rap rle rfu rba rru rti rtk rsv rgi rpa rth) → va_S A s.heap H locs → W p l e rmX1_flows s m args below meth c H locs 0 0 Q (F0 m 0 ls []) := by
    intro H locs hP hD hS
    refine lv_iconst (v := 0) hx hb dX1_flows_0 (by decide) ?_
    refine lv_istore_n (lv' := [(2, .int 0), (0, .ref h), (1, .int f)]) hx hb dX1_flows_1 rfl hl (by decide) rfl (fun ls hl => ?_)
    refine lv_iconst (v := 0) hx hb dX1_flows_2 (by decide) ?_
    refine lv_istore_n (lv' := [(3, .int 0), (2, .int 0), (0, .ref h), (1, .int f)]) hx hb dX1_flows_3 rfl hl (by decide) rfl (fun ls hl => ?_)
    have cont4 : ∀ (z1 : Int32), z1 = (X1_flows_L4 rph rgi n f  n 0 0) → ∀ (H : Heap) (locs : List Loc) (ls : Array Slot), va_P (dC, dI) vwCl (mW cI cZ h a rpt rph rgr rca rne rap rle rfu rba rru rti rtk rsv rgi rpa rth) H → va_D A (mW cI cZ h a rpt rph rgr rca rne rap rle rfu rba rru rti rtk rsv rgi rpa rth) → va_S A s.heap H locs → lv_has ls 4 [(0, .ref h), (1, .int f), (2, .int z1)] → W p l e rmX1_flows s m args below meth c H locs 0 0 Q (F0 m 51 ls []) := by
      intro z1 hz1 H locs ls hP hD hS hl
      refine lv_iload_n hx hb dX1_flows_51 rfl (lv_at hl 2 rfl) ?_
      have hP9 := hP; have hD9 := hD
      subst hz1
      exact hret H locs 52 ls ((X1_flows_L4 rph rgi n f  n 0 0)) hS hP9 hD9 (by rw [X1_flows]) dX1_flows_52
    have loop4 : ∀ (j k : Nat) (su : Int32), k + j = n → X1_flows_L4 rph rgi n f  j k su = (X1_flows_L4 rph rgi n f  n 0 0) → ∀ (H : Heap) (locs : List Loc) (ls : Array Slot), va_P (dC, dI) vwCl (mW cI cZ h a rpt rph rgr rca rne rap rle rfu rba rru rti rtk rsv rgi rpa rth) H → va_D A (mW cI cZ h a rpt rph rgr rca rne rap rle rfu rba rru rti rtk rsv rgi rpa rth) → va_S A s.heap H locs → lv_has ls 4 [(0, .ref h), (1, .int f), (2, .int su), (3, .int (nI k))] → W p l e rmX1_flows s m args below meth c H locs 0 0 Q (F0 m 4 ls []) := by
      intro j
      induction j with
      | zero =>
        intro k su hk hR  H locs ls hP hD hS hl
        refine lv_iload_n hx hb dX1_flows_4 rfl (lv_at hl 3 rfl) ?_
        refine lv_aload_n hx hb dX1_flows_5 rfl (lv_at hl 0 rfl) ?_
        refine va_get (D := (dC, dI)) (ci := 1) (v := .int rpt) (C := RX1) (T := TX1) (N := 16) hx hb hts hin hown hK hP 0 rfl rfl 0 (by decide) hw0 (fun _ h9 => h9) rfl dX1_flows_6 ?_
        refine lv_icmp_ge (tgt := 51) hx hb dX1_flows_9 (by decide) (fun _ => ?_) (fun c => absurd (by rw [hpc]; exact nI_le (by omega) (by omega)) c)
        exact cont4 su (by rw [← hR, X1_flows_L4]) H locs ls hP hD hS (lv_sub hl [0, 1, 2] rfl)
      | succ j ih =>
        intro k su hk hR  H locs ls hP hD hS hl
        refine lv_iload_n hx hb dX1_flows_4 rfl (lv_at hl 3 rfl) ?_
        refine lv_aload_n hx hb dX1_flows_5 rfl (lv_at hl 0 rfl) ?_
        refine va_get (D := (dC, dI)) (ci := 1) (v := .int rpt) (C := RX1) (T := TX1) (N := 16) hx hb hts hin hown hK hP 0 rfl rfl 0 (by decide) hw0 (fun _ h9 => h9) rfl dX1_flows_6 ?_
        refine lv_icmp_ge (tgt := 51) hx hb dX1_flows_9 (by decide) (fun c => absurd c (by rw [hpc]; exact nI_ge (by omega) (by omega))) (fun _ => ?_)
        refine lv_iload_n hx hb dX1_flows_12 rfl (lv_at hl 2 rfl) ?_
        refine lv_aload_n hx hb dX1_flows_13 rfl (lv_at hl 0 rfl) ?_
        refine va_get (D := (dC, dI)) (ci := 1) (v := .ref (a 1)) (C := RX1) (T := TX1) (N := 16) hx hb hts hin hown hK hP 0 rfl rfl 1 (by decide) hw1 (fun _ h9 => h9) rfl dX1_flows_14 ?_
        refine lv_iload_n hx hb dX1_flows_17 rfl (lv_at hl 3 rfl) ?_
        refine va_iald (f := rph) hx hb hK hP 1 0 rfl rfl (vp_in_nI (by omega) (by decide)) dX1_flows_18 ?_
        refine lv_iload_n hx hb dX1_flows_19 rfl (lv_at hl 1 rfl) ?_
        refine lv_icmp_eq (tgt := 33) hx hb dX1_flows_20 (by decide) (fun c20 => ?_) (fun c20 => ?_)
        · refine lv_aload_n hx hb dX1_flows_33 rfl (lv_at hl 0 rfl) ?_
          refine va_get (D := (dC, dI)) (ci := 1) (v := .ref (a 13)) (C := RX1) (T := TX1) (N := 16) hx hb hts hin hown hK hP 0 rfl rfl 13 (by decide) hw2 (fun _ h9 => h9) rfl dX1_flows_34 ?_
          refine lv_iload_n hx hb dX1_flows_37 rfl (lv_at hl 3 rfl) ?_
          refine va_iald (f := rgi) hx hb hK hP 8 0 rfl rfl (vp_in_nI (by omega) (by decide)) dX1_flows_38 ?_
          refine lv_goto (tgt := 43) hx hb dX1_flows_39 (by decide) ?_
          refine lv_iadd hx hb dX1_flows_43 ?_
          refine lv_istore_n (lv' := [(2, .int (su + (rgi (nI k).toNatClampNeg))), (0, .ref h), (1, .int f), (3, .int (nI k))]) hx hb dX1_flows_44 rfl hl (by decide) rfl (fun ls hl => ?_)
          refine lv_iinc (v := (nI (k + 1))) (lv' := [(3, .int (nI (k + 1))), (2, .int (su + (rgi (nI k).toNatClampNeg))), (0, .ref h), (1, .int f)]) hx hb dX1_flows_45 hl (k := 3) rfl (nI_1 k) (by decide) rfl (fun ls hl => ?_)
          refine lv_goto (tgt := 4) hx hb dX1_flows_48 (by decide) ?_
          exact ih (k + 1) (su + (rgi (nI k).toNatClampNeg)) (by omega) (by rw [← hR, X1_flows_L4, if_pos c20])  H locs ls hP hD hS (lv_sub hl [2, 3, 1, 0] rfl)
        · refine lv_aload_n hx hb dX1_flows_23 rfl (lv_at hl 0 rfl) ?_
          refine va_get (D := (dC, dI)) (ci := 1) (v := .ref (a 1)) (C := RX1) (T := TX1) (N := 16) hx hb hts hin hown hK hP 0 rfl rfl 1 (by decide) hw1 (fun _ h9 => h9) rfl dX1_flows_24 ?_
          refine lv_iload_n hx hb dX1_flows_27 rfl (lv_at hl 3 rfl) ?_
          refine va_iald (f := rph) hx hb hK hP 1 0 rfl rfl (vp_in_nI (by omega) (by decide)) dX1_flows_28 ?_
          refine lv_iconst (v := 3) hx hb dX1_flows_29 (by decide) ?_
          refine lv_icmp_ne (tgt := 42) hx hb dX1_flows_30 (by decide) (fun c30 => ?_) (fun c30 => ?_)
          · refine lv_iconst (v := 0) hx hb dX1_flows_42 (by decide) ?_
            refine lv_iadd hx hb dX1_flows_43 ?_
            refine lv_istore_n (lv' := [(2, .int (su + 0)), (0, .ref h), (1, .int f), (3, .int (nI k))]) hx hb dX1_flows_44 rfl hl (by decide) rfl (fun ls hl => ?_)
            refine lv_iinc (v := (nI (k + 1))) (lv' := [(3, .int (nI (k + 1))), (2, .int (su + 0)), (0, .ref h), (1, .int f)]) hx hb dX1_flows_45 hl (k := 3) rfl (nI_1 k) (by decide) rfl (fun ls hl => ?_)
            refine lv_goto (tgt := 4) hx hb dX1_flows_48 (by decide) ?_
            exact ih (k + 1) (su + 0) (by omega) (by rw [← hR, X1_flows_L4, if_neg c20, if_neg c30])  H locs ls hP hD hS (lv_sub hl [2, 3, 1, 0] rfl)
          · refine lv_aload_n hx hb dX1_flows_33 rfl (lv_at hl 0 rfl) ?_
            refine va_get (D := (dC, dI)) (ci := 1) (v := .ref (a 13)) (C := RX1) (T := TX1) (N := 16) hx hb hts hin hown hK hP 0 rfl rfl 13 (by decide) hw2 (fun _ h9 => h9) rfl dX1_flows_34 ?_
            refine lv_iload_n hx hb dX1_flows_37 rfl (lv_at hl 3 rfl) ?_
            refine va_iald (f := rgi) hx hb hK hP 8 0 rfl rfl (vp_in_nI (by omega) (by decide)) dX1_flows_38 ?_
            refine lv_goto (tgt := 43) hx hb dX1_flows_39 (by decide) ?_
            refine lv_iadd hx hb dX1_flows_43 ?_
            refine lv_istore_n (lv' := [(2, .int (su + (rgi (nI k).toNatClampNeg))), (0, .ref h), (1, .int f), (3, .int (nI k))]) hx hb dX1_flows_44 rfl hl (by decide) rfl (fun ls hl => ?_)
            refine lv_iinc (v := (nI (k + 1))) (lv' := [(3, .int (nI (k + 1))), (2, .int (su + (rgi (nI k).toNatClampNeg))), (0, .ref h), (1, .int f)]) hx hb dX1_flows_45 hl (k := 3) rfl (nI_1 k) (by decide) rfl (fun ls hl => ?_)
            refine lv_goto (tgt := 4) hx hb dX1_flows_48 (by decide) ?_
            exact ih (k + 1) (su + (rgi (nI k).toNatClampNeg)) (by omega) (by rw [← hR, X1_flows_L4, if_neg c20, if_pos c30])  H locs ls hP hD hS (lv_sub hl [2, 3, 1, 0] rfl)
    exact loop4 n 0 0 (by omega) rfl  H locs ls hP hD hS (lv_sub hl [2, 3, 1, 0] rfl)
  exact hW _ _ hP hD hS
def X1_room_L5 (rph : AR) (rfu : AR) (rgi : AR) (n : Nat) (i : Int32) : Nat → Nat → Int32 → Int32
  | 0, k, le => le
  | j + 1, k, le => (if (rph i.toNatClampNeg) = (nI k) then (if le ≤ ((rfu (nI k).toNatClampNeg) - (X1_flows rph rgi n (nI k))) then X1_room_L5 rph rfu rgi n i  j (k + 1) le else X1_room_L5 rph rfu rgi n i  j (k + 1) ((rfu (nI k).toNatClampNeg) - (X1_flows rph rgi n (nI k)))) else (if (rph i.toNatClampNeg) = 3 then (if le ≤ ((rfu (nI k).toNatClampNeg) - (X1_flows rph rgi n (nI k))) then X1_room_L5 rph rfu rgi n i  j (k + 1) le else X1_room_L5 rph rfu rgi n i  j (k + 1) ((rfu (nI k).toNatClampNeg) - (X1_flows rph rgi n (nI k)))) else X1_room_L5 rph rfu rgi n i  j (k + 1) le))
def X1_room (rph : AR) (rfu : AR) (rgi : AR) (n : Nat) (i : Int32) : Int32 := ((X1_room_L5 rph rfu rgi n i  3 0 100))
abbrev rmX1_room : Room := { frames := 1, cells := 0, slots := 0, locals := 23 }
theorem hd_X1_room : yX1_room.cls = RX1 ∧ yX1_room.cls ≠ "java/lang/invoke/MethodHandle" ∧ yX1_room.cls ≠ "java/lang/invoke/VarHandle" ∧ (parseMethodDescriptor yX1_room.desc).map (fun d => d.parameters.length) = some 1 := by decide +kernel
set_option maxHeartbeats 4000000 in
set_option maxRecDepth 100000 in
theorem c_X1_room (l : Launch) (dC : Nat → ClassId) (dI : Nat → Nat → Nat) (cI cZ : ClassId) (h : Nat) (a : Nat → Nat) (rpt : Int32) (rph : AR) (rgr : AR) (rca : AR) (rne : AR) (rap : AR) (rle : AR) (rfu : AR) (rba : Int32) (rru : Int32) (rti : Int32) (rtk : Int32) (rsv : Int32) (rgi : AR) (rpa : AR) (rth : Int32) (n : Nat) (i : Int32) (hp : vp_in i 8) (hpc : rpt = nI n) (hn : n ≤ 8) : Ki l yX1_room wsX1_room rmX1_room dC dI cI cZ [.ref h, .int i] (mW cI cZ h a rpt rph rgr rca rne rap rle rfu rba rru rti rtk rsv rgi rpa rth) (mW cI cZ h a rpt rph rgr rca rne rap rle rfu rba rru rti rtk rsv rgi rpa rth) (X1_room rph rfu rgi n i) := by
  refine k_enter_i (cc := cX1_room) (maxL := 5) (ret := some .int) (by decide) rfl (Nat.le_of_ble_eq_true rfl) ?_
  intro p e s m below meth c A ls hC hr hlocks hK hP hD hS hA hl
  generalize List.toArray _ = args at hC ⊢
  obtain ⟨hx, hb, hml, hown, hts⟩ := id hC
  have hret : ∀ (H : Heap) (locs : List Loc) (pc : Nat) (ls : Array Slot) (r : Int32), va_S A s.heap H locs → va_P (dC, dI) vwCl (mW cI cZ h a rpt rph rgr rca rne rap rle rfu rba rru rti rtk rsv rgi rpa rth) H → va_D A (mW cI cZ h a rpt rph rgr rca rne rap rle rfu rba rru rti rtk rsv rgi rpa rth) → r = (X1_room rph rfu rgi n i) → decode cX1_room pc = .ok (.ireturn, 1) → W p l e rmX1_room s m args below meth c H locs 0 0 (MQ below (va_Qi (fun r (_ : Unit) => r = (X1_room rph rfu rgi n i)) (kBeh dC dI A (mW cI cZ h a rpt rph rgr rca rne rap rle rfu rba rru rti rtk rsv rgi rpa rth)) A) args s 0 0 A) (F0 m pc ls [.int r]) := fun H locs pc ls r hS hP hD hv d => k_iret hx hb hr hlocks hS hP hD hv d
  generalize MQ below _ _ _ _ _ _ = Q at hret ⊢
  have hin : ∀ w ∈ wsX10, w ∈ wsX1_room := by decide +kernel
  have hw0 := hts (.fieldLink RX1 29 "ChargeParkModel" "fuse" "[I") (by decide +kernel)
  have hw1 := hts (.fieldLink RX1 7 "ChargeParkModel" "phase" "[I") (by decide +kernel)
  have hl : lv_has ls 5 [(0, .ref h), (1, .int i)] := hl
  have hP : va_P (dC, dI) vwCl (mW cI cZ h a rpt rph rgr rca rne rap rle rfu rba rru rti rtk rsv rgi rpa rth) s.heap := hP
  have hW : ∀ (H : Heap) (locs : List Loc), va_P (dC, dI) vwCl (mW cI cZ h a rpt rph rgr rca rne rap rle rfu rba rru rti rtk rsv rgi rpa rth) H → va_D A (mW cI cZ h a rpt rph rgr rca rne rap rle rfu rba rru rti rtk rsv rgi rpa rth) → va_S A s.heap H locs → W p l e rmX1_room s m args below meth c H locs 0 0 Q (F0 m 0 ls []) := by
    intro H locs hP hD hS
    refine lv_bipush (v := 100) hx hb dX1_room_0 (by decide) ?_
    refine lv_istore_n (lv' := [(2, .int 100), (0, .ref h), (1, .int i)]) hx hb dX1_room_2 rfl hl (by decide) rfl (fun ls hl => ?_)
    refine lv_iconst (v := 0) hx hb dX1_room_3 (by decide) ?_
    refine lv_istore_n (lv' := [(3, .int 0), (2, .int 100), (0, .ref h), (1, .int i)]) hx hb dX1_room_4 rfl hl (by decide) rfl (fun ls hl => ?_)
    have cont5 : ∀ (z1 : Int32), z1 = (X1_room_L5 rph rfu rgi n i  3 0 100) → ∀ (H : Heap) (locs : List Loc) (ls : Array Slot), va_P (dC, dI) vwCl (mW cI cZ h a rpt rph rgr rca rne rap rle rfu rba rru rti rtk rsv rgi rpa rth) H → va_D A (mW cI cZ h a rpt rph rgr rca rne rap rle rfu rba rru rti rtk rsv rgi rpa rth) → va_S A s.heap H locs → lv_has ls 5 [(0, .ref h), (1, .int i), (2, .int z1)] → W p l e rmX1_room s m args below meth c H locs 0 0 Q (F0 m 63 ls []) := by
      intro z1 hz1 H locs ls hP hD hS hl
      refine lv_iload_n hx hb dX1_room_63 rfl (lv_at hl 2 rfl) ?_
      have hP9 := hP; have hD9 := hD
      subst hz1
      exact hret H locs 64 ls ((X1_room_L5 rph rfu rgi n i  3 0 100)) hS hP9 hD9 (by rw [X1_room]) dX1_room_64
    have loop5 : ∀ (j k : Nat) (le : Int32), k + j = 3 → X1_room_L5 rph rfu rgi n i  j k le = (X1_room_L5 rph rfu rgi n i  3 0 100) → ∀ (H : Heap) (locs : List Loc) (ls : Array Slot), va_P (dC, dI) vwCl (mW cI cZ h a rpt rph rgr rca rne rap rle rfu rba rru rti rtk rsv rgi rpa rth) H → va_D A (mW cI cZ h a rpt rph rgr rca rne rap rle rfu rba rru rti rtk rsv rgi rpa rth) → va_S A s.heap H locs → lv_has ls 5 [(0, .ref h), (1, .int i), (2, .int le), (3, .int (nI k))] → W p l e rmX1_room s m args below meth c H locs 0 0 Q (F0 m 5 ls []) := by
      intro j
      induction j with
      | zero =>
        intro k le hk hR  H locs ls hP hD hS hl
        refine lv_iload_n hx hb dX1_room_5 rfl (lv_at hl 3 rfl) ?_
        refine lv_iconst (v := 3) hx hb dX1_room_6 (by decide) ?_
        refine lv_icmp_ge (tgt := 63) hx hb dX1_room_7 (by decide) (fun _ => ?_) (fun c => absurd (by rw [nIl3]; exact nI_le (by omega) (by omega)) c)
        exact cont5 le (by rw [← hR, X1_room_L5]) H locs ls hP hD hS (lv_sub hl [0, 1, 2] rfl)
      | succ j ih =>
        intro k le hk hR  H locs ls hP hD hS hl
        refine lv_iload_n hx hb dX1_room_5 rfl (lv_at hl 3 rfl) ?_
        refine lv_iconst (v := 3) hx hb dX1_room_6 (by decide) ?_
        refine lv_icmp_ge (tgt := 63) hx hb dX1_room_7 (by decide) (fun c => absurd c (by rw [nIl3]; exact nI_ge (by omega) (by omega))) (fun _ => ?_)
        refine lv_aload_n hx hb dX1_room_10 rfl (lv_at hl 0 rfl) ?_
        refine va_get (D := (dC, dI)) (ci := 1) (v := .ref (a 7)) (C := RX1) (T := TX1) (N := 16) hx hb hts hin hown hK hP 0 rfl rfl 7 (by decide) hw0 (fun _ h9 => h9) rfl dX1_room_11 ?_
        refine lv_iload_n hx hb dX1_room_14 rfl (lv_at hl 3 rfl) ?_
        refine va_iald (f := rfu) hx hb hK hP 7 0 rfl rfl (vp_in_nI (by omega) (by decide)) dX1_room_15 ?_
        refine lv_aload_n hx hb dX1_room_16 rfl (lv_at hl 0 rfl) ?_
        refine lv_iload_n hx hb dX1_room_17 rfl (lv_at hl 3 rfl) ?_
        refine k_calli (rest := [.int (rfu (nI k).toNatClampNeg)]) (q0 := 0) hC (c_X1_flows l dC dI cI cZ h a rpt rph rgr rca rne rap rle rfu rba rru rti rtk rsv rgi rpa rth n (nI k) hpc hn) (cwV 1 hts gX1_room_X1_flows rfl rfl rfl hd_X1_flows ⟨Nat.le_of_ble_eq_true rfl, Nat.le_of_ble_eq_true rfl⟩) hK hP hD hS hA rfl rfl rfl hl.1 (Nat.le_of_ble_eq_true rfl) dX1_room_18 rfl ⟨Nat.zero_le _, Nat.zero_le _⟩ (fun H locs hP hD hS => ?_)
        refine lv_isub hx hb dX1_room_21 ?_
        refine lv_istore (lv' := [(4, .int ((rfu (nI k).toNatClampNeg) - (X1_flows rph rgi n (nI k)))), (0, .ref h), (1, .int i), (2, .int le), (3, .int (nI k))]) hx hb dX1_room_22 hl (by decide) rfl (fun ls hl => ?_)
        refine lv_aload_n hx hb dX1_room_24 rfl (lv_at hl 1 rfl) ?_
        refine va_get (D := (dC, dI)) (ci := 1) (v := .ref (a 1)) (C := RX1) (T := TX1) (N := 16) hx hb hts hin hown hK hP 0 rfl rfl 1 (by decide) hw1 (fun _ h9 => h9) rfl dX1_room_25 ?_
        refine lv_iload_n hx hb dX1_room_28 rfl (lv_at hl 2 rfl) ?_
        refine va_iald (f := rph) hx hb hK hP 1 0 rfl rfl hp dX1_room_29 ?_
        refine lv_iload_n hx hb dX1_room_30 rfl (lv_at hl 4 rfl) ?_
        refine lv_icmp_eq (tgt := 44) hx hb dX1_room_31 (by decide) (fun c31 => ?_) (fun c31 => ?_)
        · refine lv_iload hx hb dX1_room_44 (lv_at hl 0 rfl) ?_
          refine lv_iload_n hx hb dX1_room_46 rfl (lv_at hl 3 rfl) ?_
          refine lv_icmp_ge (tgt := 55) hx hb dX1_room_47 (by decide) (fun c47 => ?_) (fun c47 => ?_)
          · refine lv_iload_n hx hb dX1_room_55 rfl (lv_at hl 3 rfl) ?_
            refine lv_istore_n (lv' := [(2, .int le), (4, .int ((rfu (nI k).toNatClampNeg) - (X1_flows rph rgi n (nI k)))), (0, .ref h), (1, .int i), (3, .int (nI k))]) hx hb dX1_room_56 rfl hl (by decide) rfl (fun ls hl => ?_)
            refine lv_iinc (v := (nI (k + 1))) (lv' := [(3, .int (nI (k + 1))), (2, .int le), (4, .int ((rfu (nI k).toNatClampNeg) - (X1_flows rph rgi n (nI k)))), (0, .ref h), (1, .int i)]) hx hb dX1_room_57 hl (k := 4) rfl (nI_1 k) (by decide) rfl (fun ls hl => ?_)
            refine lv_goto (tgt := 5) hx hb dX1_room_60 (by decide) ?_
            exact ih (k + 1) le (by omega) (by rw [← hR, X1_room_L5, if_pos c31, if_pos c47])  H locs ls hP hD hS (lv_sub hl [3, 4, 1, 0] rfl)
          · refine lv_iload hx hb dX1_room_50 (lv_at hl 0 rfl) ?_
            refine lv_goto (tgt := 56) hx hb dX1_room_52 (by decide) ?_
            refine lv_istore_n (lv' := [(2, .int ((rfu (nI k).toNatClampNeg) - (X1_flows rph rgi n (nI k)))), (4, .int ((rfu (nI k).toNatClampNeg) - (X1_flows rph rgi n (nI k)))), (0, .ref h), (1, .int i), (3, .int (nI k))]) hx hb dX1_room_56 rfl hl (by decide) rfl (fun ls hl => ?_)
            refine lv_iinc (v := (nI (k + 1))) (lv' := [(3, .int (nI (k + 1))), (2, .int ((rfu (nI k).toNatClampNeg) - (X1_flows rph rgi n (nI k)))), (4, .int ((rfu (nI k).toNatClampNeg) - (X1_flows rph rgi n (nI k)))), (0, .ref h), (1, .int i)]) hx hb dX1_room_57 hl (k := 4) rfl (nI_1 k) (by decide) rfl (fun ls hl => ?_)
            refine lv_goto (tgt := 5) hx hb dX1_room_60 (by decide) ?_
            exact ih (k + 1) ((rfu (nI k).toNatClampNeg) - (X1_flows rph rgi n (nI k))) (by omega) (by rw [← hR, X1_room_L5, if_pos c31, if_neg c47])  H locs ls hP hD hS (lv_sub hl [3, 4, 1, 0] rfl)
        · refine lv_aload_n hx hb dX1_room_34 rfl (lv_at hl 1 rfl) ?_
          refine va_get (D := (dC, dI)) (ci := 1) (v := .ref (a 1)) (C := RX1) (T := TX1) (N := 16) hx hb hts hin hown hK hP 0 rfl rfl 1 (by decide) hw1 (fun _ h9 => h9) rfl dX1_room_35 ?_
          refine lv_iload_n hx hb dX1_room_38 rfl (lv_at hl 2 rfl) ?_
          refine va_iald (f := rph) hx hb hK hP 1 0 rfl rfl hp dX1_room_39 ?_
          refine lv_iconst (v := 3) hx hb dX1_room_40 (by decide) ?_
          refine lv_icmp_ne (tgt := 55) hx hb dX1_room_41 (by decide) (fun c41 => ?_) (fun c41 => ?_)
          · refine lv_iload_n hx hb dX1_room_55 rfl (lv_at hl 3 rfl) ?_
            refine lv_istore_n (lv' := [(2, .int le), (4, .int ((rfu (nI k).toNatClampNeg) - (X1_flows rph rgi n (nI k)))), (0, .ref h), (1, .int i), (3, .int (nI k))]) hx hb dX1_room_56 rfl hl (by decide) rfl (fun ls hl => ?_)
            refine lv_iinc (v := (nI (k + 1))) (lv' := [(3, .int (nI (k + 1))), (2, .int le), (4, .int ((rfu (nI k).toNatClampNeg) - (X1_flows rph rgi n (nI k)))), (0, .ref h), (1, .int i)]) hx hb dX1_room_57 hl (k := 4) rfl (nI_1 k) (by decide) rfl (fun ls hl => ?_)
            refine lv_goto (tgt := 5) hx hb dX1_room_60 (by decide) ?_
            exact ih (k + 1) le (by omega) (by rw [← hR, X1_room_L5, if_neg c31, if_neg c41])  H locs ls hP hD hS (lv_sub hl [3, 4, 1, 0] rfl)
          · refine lv_iload hx hb dX1_room_44 (lv_at hl 0 rfl) ?_
            refine lv_iload_n hx hb dX1_room_46 rfl (lv_at hl 3 rfl) ?_
            refine lv_icmp_ge (tgt := 55) hx hb dX1_room_47 (by decide) (fun c47 => ?_) (fun c47 => ?_)
            · refine lv_iload_n hx hb dX1_room_55 rfl (lv_at hl 3 rfl) ?_
              refine lv_istore_n (lv' := [(2, .int le), (4, .int ((rfu (nI k).toNatClampNeg) - (X1_flows rph rgi n (nI k)))), (0, .ref h), (1, .int i), (3, .int (nI k))]) hx hb dX1_room_56 rfl hl (by decide) rfl (fun ls hl => ?_)
              refine lv_iinc (v := (nI (k + 1))) (lv' := [(3, .int (nI (k + 1))), (2, .int le), (4, .int ((rfu (nI k).toNatClampNeg) - (X1_flows rph rgi n (nI k)))), (0, .ref h), (1, .int i)]) hx hb dX1_room_57 hl (k := 4) rfl (nI_1 k) (by decide) rfl (fun ls hl => ?_)
              refine lv_goto (tgt := 5) hx hb dX1_room_60 (by decide) ?_
              exact ih (k + 1) le (by omega) (by rw [← hR, X1_room_L5, if_neg c31, if_pos c41, if_pos c47])  H locs ls hP hD hS (lv_sub hl [3, 4, 1, 0] rfl)
            · refine lv_iload hx hb dX1_room_50 (lv_at hl 0 rfl) ?_
              refine lv_goto (tgt := 56) hx hb dX1_room_52 (by decide) ?_
              refine lv_istore_n (lv' := [(2, .int ((rfu (nI k).toNatClampNeg) - (X1_flows rph rgi n (nI k)))), (4, .int ((rfu (nI k).toNatClampNeg) - (X1_flows rph rgi n (nI k)))), (0, .ref h), (1, .int i), (3, .int (nI k))]) hx hb dX1_room_56 rfl hl (by decide) rfl (fun ls hl => ?_)
              refine lv_iinc (v := (nI (k + 1))) (lv' := [(3, .int (nI (k + 1))), (2, .int ((rfu (nI k).toNatClampNeg) - (X1_flows rph rgi n (nI k)))), (4, .int ((rfu (nI k).toNatClampNeg) - (X1_flows rph rgi n (nI k)))), (0, .ref h), (1, .int i)]) hx hb dX1_room_57 hl (k := 4) rfl (nI_1 k) (by decide) rfl (fun ls hl => ?_)
              refine lv_goto (tgt := 5) hx hb dX1_room_60 (by decide) ?_
              exact ih (k + 1) ((rfu (nI k).toNatClampNeg) - (X1_flows rph rgi n (nI k))) (by omega) (by rw [← hR, X1_room_L5, if_neg c31, if_pos c41, if_neg c47])  H locs ls hP hD hS (lv_sub hl [3, 4, 1, 0] rfl)
    exact loop5 3 0 100 (by omega) rfl  H locs ls hP hD hS (lv_sub hl [2, 3, 1, 0] rfl)
  exact hW _ _ hP hD hS
def X1_ahead_L4 (rph : AR) (rgr : AR) (rca : AR) (rne : AR) (rap : AR) (rle : AR) (rti : Int32) (n : Nat) (i : Int32) : Nat → Nat → Int32 → Int32
  | 0, k, su => su
  | j + 1, k, su => (if (X1_reaches rph rgr rca rne rap rle rti (nI k)) ≤ 0 then X1_ahead_L4 rph rgr rca rne rap rle rti n i  j (k + 1) (su + 0) else (if (X1_lax rph rgr rne rap rle rti (nI k)) < (X1_lax rph rgr rne rap rle rti i) then X1_ahead_L4 rph rgr rca rne rap rle rti n i  j (k + 1) (su + 1) else (if (X1_lax rph rgr rne rap rle rti (nI k)) = (X1_lax rph rgr rne rap rle rti i) then (if i ≤ (nI k) then X1_ahead_L4 rph rgr rca rne rap rle rti n i  j (k + 1) (su + 0) else X1_ahead_L4 rph rgr rca rne rap rle rti n i  j (k + 1) (su + 1)) else X1_ahead_L4 rph rgr rca rne rap rle rti n i  j (k + 1) (su + 0))))
def X1_ahead (rph : AR) (rgr : AR) (rca : AR) (rne : AR) (rap : AR) (rle : AR) (rti : Int32) (n : Nat) (i : Int32) : Int32 := ((X1_ahead_L4 rph rgr rca rne rap rle rti n i  n 0 0))
abbrev rmX1_ahead : Room := { frames := 2, cells := 0, slots := 0, locals := 44 }
theorem hd_X1_ahead : yX1_ahead.cls = RX1 ∧ yX1_ahead.cls ≠ "java/lang/invoke/MethodHandle" ∧ yX1_ahead.cls ≠ "java/lang/invoke/VarHandle" ∧ (parseMethodDescriptor yX1_ahead.desc).map (fun d => d.parameters.length) = some 1 := by decide +kernel
set_option maxHeartbeats 4000000 in
set_option maxRecDepth 100000 in
theorem c_X1_ahead (l : Launch) (dC : Nat → ClassId) (dI : Nat → Nat → Nat) (cI cZ : ClassId) (h : Nat) (a : Nat → Nat) (rpt : Int32) (rph : AR) (rgr : AR) (rca : AR) (rne : AR) (rap : AR) (rle : AR) (rfu : AR) (rba : Int32) (rru : Int32) (rti : Int32) (rtk : Int32) (rsv : Int32) (rgi : AR) (rpa : AR) (rth : Int32) (n : Nat) (i : Int32) (hp : vp_in i 8) (hpc : rpt = nI n) (hn : n ≤ 8) (hI : mI rgr rca rap n) (hl0 : ¬ (X1_most rgr rap i * X1_times rph i) = 0) : Ki l yX1_ahead wsX1_ahead rmX1_ahead dC dI cI cZ [.ref h, .int i] (mW cI cZ h a rpt rph rgr rca rne rap rle rfu rba rru rti rtk rsv rgi rpa rth) (mW cI cZ h a rpt rph rgr rca rne rap rle rfu rba rru rti rtk rsv rgi rpa rth) (X1_ahead rph rgr rca rne rap rle rti n i) := by
  refine k_enter_i (cc := cX1_ahead) (maxL := 4) (ret := some .int) (by decide) rfl (Nat.le_of_ble_eq_true rfl) ?_
  intro p e s m below meth c A ls hC hr hlocks hK hP hD hS hA hl
  generalize List.toArray _ = args at hC ⊢
  obtain ⟨hx, hb, hml, hown, hts⟩ := id hC
  have hret : ∀ (H : Heap) (locs : List Loc) (pc : Nat) (ls : Array Slot) (r : Int32), va_S A s.heap H locs → va_P (dC, dI) vwCl (mW cI cZ h a rpt rph rgr rca rne rap rle rfu rba rru rti rtk rsv rgi rpa rth) H → va_D A (mW cI cZ h a rpt rph rgr rca rne rap rle rfu rba rru rti rtk rsv rgi rpa rth) → r = (X1_ahead rph rgr rca rne rap rle rti n i) → decode cX1_ahead pc = .ok (.ireturn, 1) → W p l e rmX1_ahead s m args below meth c H locs 0 0 (MQ below (va_Qi (fun r (_ : Unit) => r = (X1_ahead rph rgr rca rne rap rle rti n i)) (kBeh dC dI A (mW cI cZ h a rpt rph rgr rca rne rap rle rfu rba rru rti rtk rsv rgi rpa rth)) A) args s 0 0 A) (F0 m pc ls [.int r]) := fun H locs pc ls r hS hP hD hv d => k_iret hx hb hr hlocks hS hP hD hv d
  generalize MQ below _ _ _ _ _ _ = Q at hret ⊢
  have hin : ∀ w ∈ wsX10, w ∈ wsX1_ahead := by decide +kernel
  have hw0 := hts (.fieldLink RX1 49 "ChargeParkModel" "points" "I") (by decide +kernel)
  have hl : lv_has ls 4 [(0, .ref h), (1, .int i)] := hl
  have hP : va_P (dC, dI) vwCl (mW cI cZ h a rpt rph rgr rca rne rap rle rfu rba rru rti rtk rsv rgi rpa rth) s.heap := hP
  have hW : ∀ (H : Heap) (locs : List Loc), va_P (dC, dI) vwCl (mW cI cZ h a rpt rph rgr rca rne rap rle rfu rba rru rti rtk rsv rgi rpa rth) H → va_D A (mW cI cZ h a rpt rph rgr rca rne rap rle rfu rba rru rti rtk rsv rgi rpa rth) → va_S A s.heap H locs → W p l e rmX1_ahead s m args below meth c H locs 0 0 Q (F0 m 0 ls []) := by
    intro H locs hP hD hS
    refine lv_iconst (v := 0) hx hb dX1_ahead_0 (by decide) ?_
    refine lv_istore_n (lv' := [(2, .int 0), (0, .ref h), (1, .int i)]) hx hb dX1_ahead_1 rfl hl (by decide) rfl (fun ls hl => ?_)
    refine lv_iconst (v := 0) hx hb dX1_ahead_2 (by decide) ?_
    refine lv_istore_n (lv' := [(3, .int 0), (2, .int 0), (0, .ref h), (1, .int i)]) hx hb dX1_ahead_3 rfl hl (by decide) rfl (fun ls hl => ?_)
    have cont4 : ∀ (z1 : Int32), z1 = (X1_ahead_L4 rph rgr rca rne rap rle rti n i  n 0 0) → ∀ (H : Heap) (locs : List Loc) (ls : Array Slot), va_P (dC, dI) vwCl (mW cI cZ h a rpt rph rgr rca rne rap rle rfu rba rru rti rtk rsv rgi rpa rth) H → va_D A (mW cI cZ h a rpt rph rgr rca rne rap rle rfu rba rru rti rtk rsv rgi rpa rth) → va_S A s.heap H locs → lv_has ls 4 [(0, .ref h), (1, .int i), (2, .int z1)] → W p l e rmX1_ahead s m args below meth c H locs 0 0 Q (F0 m 65 ls []) := by
      intro z1 hz1 H locs ls hP hD hS hl
      refine lv_iload_n hx hb dX1_ahead_65 rfl (lv_at hl 2 rfl) ?_
      have hP9 := hP; have hD9 := hD
      subst hz1
      exact hret H locs 66 ls ((X1_ahead_L4 rph rgr rca rne rap rle rti n i  n 0 0)) hS hP9 hD9 (by rw [X1_ahead]) dX1_ahead_66
    have loop4 : ∀ (j k : Nat) (su : Int32), k + j = n → X1_ahead_L4 rph rgr rca rne rap rle rti n i  j k su = (X1_ahead_L4 rph rgr rca rne rap rle rti n i  n 0 0) → ∀ (H : Heap) (locs : List Loc) (ls : Array Slot), va_P (dC, dI) vwCl (mW cI cZ h a rpt rph rgr rca rne rap rle rfu rba rru rti rtk rsv rgi rpa rth) H → va_D A (mW cI cZ h a rpt rph rgr rca rne rap rle rfu rba rru rti rtk rsv rgi rpa rth) → va_S A s.heap H locs → lv_has ls 4 [(0, .ref h), (1, .int i), (2, .int su), (3, .int (nI k))] → W p l e rmX1_ahead s m args below meth c H locs 0 0 Q (F0 m 4 ls []) := by
      intro j
      induction j with
      | zero =>
        intro k su hk hR  H locs ls hP hD hS hl
        refine lv_iload_n hx hb dX1_ahead_4 rfl (lv_at hl 3 rfl) ?_
        refine lv_aload_n hx hb dX1_ahead_5 rfl (lv_at hl 0 rfl) ?_
        refine va_get (D := (dC, dI)) (ci := 1) (v := .int rpt) (C := RX1) (T := TX1) (N := 16) hx hb hts hin hown hK hP 0 rfl rfl 0 (by decide) hw0 (fun _ h9 => h9) rfl dX1_ahead_6 ?_
        refine lv_icmp_ge (tgt := 65) hx hb dX1_ahead_9 (by decide) (fun _ => ?_) (fun c => absurd (by rw [hpc]; exact nI_le (by omega) (by omega)) c)
        exact cont4 su (by rw [← hR, X1_ahead_L4]) H locs ls hP hD hS (lv_sub hl [0, 1, 2] rfl)
      | succ j ih =>
        intro k su hk hR  H locs ls hP hD hS hl
        refine lv_iload_n hx hb dX1_ahead_4 rfl (lv_at hl 3 rfl) ?_
        refine lv_aload_n hx hb dX1_ahead_5 rfl (lv_at hl 0 rfl) ?_
        refine va_get (D := (dC, dI)) (ci := 1) (v := .int rpt) (C := RX1) (T := TX1) (N := 16) hx hb hts hin hown hK hP 0 rfl rfl 0 (by decide) hw0 (fun _ h9 => h9) rfl dX1_ahead_6 ?_
        refine lv_icmp_ge (tgt := 65) hx hb dX1_ahead_9 (by decide) (fun c => absurd c (by rw [hpc]; exact nI_ge (by omega) (by omega))) (fun _ => ?_)
        refine lv_iload_n hx hb dX1_ahead_12 rfl (lv_at hl 2 rfl) ?_
        refine lv_aload_n hx hb dX1_ahead_13 rfl (lv_at hl 0 rfl) ?_
        refine lv_iload_n hx hb dX1_ahead_14 rfl (lv_at hl 3 rfl) ?_
        refine k_calli (rest := [.int su]) (q0 := 0) hC (c_X1_reaches l dC dI cI cZ h a rpt rph rgr rca rne rap rle rfu rba rru rti rtk rsv rgi rpa rth  (nI k) (vp_in_nI (by omega) (by decide))) (cwV 1 hts gX1_ahead_X1_reaches rfl rfl rfl hd_X1_reaches ⟨Nat.le_of_ble_eq_true rfl, Nat.le_of_ble_eq_true rfl⟩) hK hP hD hS hA rfl rfl rfl hl.1 (Nat.le_of_ble_eq_true rfl) dX1_ahead_15 rfl ⟨Nat.zero_le _, Nat.zero_le _⟩ (fun H locs hP hD hS => ?_)
        refine lv_if_le (tgt := 56) hx hb dX1_ahead_18 (by decide) (fun c18 => ?_) (fun c18 => ?_)
        · refine lv_iconst (v := 0) hx hb dX1_ahead_56 (by decide) ?_
          refine lv_iadd hx hb dX1_ahead_57 ?_
          refine lv_istore_n (lv' := [(2, .int (su + 0)), (0, .ref h), (1, .int i), (3, .int (nI k))]) hx hb dX1_ahead_58 rfl hl (by decide) rfl (fun ls hl => ?_)
          refine lv_iinc (v := (nI (k + 1))) (lv' := [(3, .int (nI (k + 1))), (2, .int (su + 0)), (0, .ref h), (1, .int i)]) hx hb dX1_ahead_59 hl (k := 3) rfl (nI_1 k) (by decide) rfl (fun ls hl => ?_)
          refine lv_goto (tgt := 4) hx hb dX1_ahead_62 (by decide) ?_
          exact ih (k + 1) (su + 0) (by omega) (by rw [← hR, X1_ahead_L4, if_pos c18])  H locs ls hP hD hS (lv_sub hl [2, 3, 1, 0] rfl)
        · refine lv_aload_n hx hb dX1_ahead_21 rfl (lv_at hl 0 rfl) ?_
          refine lv_iload_n hx hb dX1_ahead_22 rfl (lv_at hl 3 rfl) ?_
          refine k_calli (rest := [.int su]) (q0 := 0) hC (c_X1_lax l dC dI cI cZ h a rpt rph rgr rca rne rap rle rfu rba rru rti rtk rsv rgi rpa rth  (nI k) (vp_in_nI (by omega) (by decide)) (mI_nz hI (by omega) hn (X1_reaches_car c18))) (cwV 1 hts gX1_ahead_X1_lax rfl rfl rfl hd_X1_lax ⟨Nat.le_of_ble_eq_true rfl, Nat.le_of_ble_eq_true rfl⟩) hK hP hD hS hA rfl rfl rfl hl.1 (Nat.le_of_ble_eq_true rfl) dX1_ahead_23 rfl ⟨Nat.zero_le _, Nat.zero_le _⟩ (fun H locs hP hD hS => ?_)
          refine lv_aload_n hx hb dX1_ahead_26 rfl (lv_at hl 0 rfl) ?_
          refine lv_iload_n hx hb dX1_ahead_27 rfl (lv_at hl 1 rfl) ?_
          refine k_calli (rest := [.int (X1_lax rph rgr rne rap rle rti (nI k)), .int su]) (q0 := 0) hC (c_X1_lax l dC dI cI cZ h a rpt rph rgr rca rne rap rle rfu rba rru rti rtk rsv rgi rpa rth  i hp hl0) (cwV 1 hts gX1_ahead_X1_lax rfl rfl rfl hd_X1_lax ⟨Nat.le_of_ble_eq_true rfl, Nat.le_of_ble_eq_true rfl⟩) hK hP hD hS hA rfl rfl rfl hl.1 (Nat.le_of_ble_eq_true rfl) dX1_ahead_28 rfl ⟨Nat.zero_le _, Nat.zero_le _⟩ (fun H locs hP hD hS => ?_)
          refine lv_icmp_lt (tgt := 52) hx hb dX1_ahead_31 (by decide) (fun c31 => ?_) (fun c31 => ?_)
          · refine lv_iconst (v := 1) hx hb dX1_ahead_52 (by decide) ?_
            refine lv_goto (tgt := 57) hx hb dX1_ahead_53 (by decide) ?_
            refine lv_iadd hx hb dX1_ahead_57 ?_
            refine lv_istore_n (lv' := [(2, .int (su + 1)), (0, .ref h), (1, .int i), (3, .int (nI k))]) hx hb dX1_ahead_58 rfl hl (by decide) rfl (fun ls hl => ?_)
            refine lv_iinc (v := (nI (k + 1))) (lv' := [(3, .int (nI (k + 1))), (2, .int (su + 1)), (0, .ref h), (1, .int i)]) hx hb dX1_ahead_59 hl (k := 3) rfl (nI_1 k) (by decide) rfl (fun ls hl => ?_)
            refine lv_goto (tgt := 4) hx hb dX1_ahead_62 (by decide) ?_
            exact ih (k + 1) (su + 1) (by omega) (by rw [← hR, X1_ahead_L4, if_neg c18, if_pos c31])  H locs ls hP hD hS (lv_sub hl [2, 3, 1, 0] rfl)
          · refine lv_aload_n hx hb dX1_ahead_34 rfl (lv_at hl 0 rfl) ?_
            refine lv_iload_n hx hb dX1_ahead_35 rfl (lv_at hl 3 rfl) ?_
            refine k_calli (rest := [.int su]) (q0 := 0) hC (c_X1_lax l dC dI cI cZ h a rpt rph rgr rca rne rap rle rfu rba rru rti rtk rsv rgi rpa rth  (nI k) (vp_in_nI (by omega) (by decide)) (mI_nz hI (by omega) hn (X1_reaches_car c18))) (cwV 1 hts gX1_ahead_X1_lax rfl rfl rfl hd_X1_lax ⟨Nat.le_of_ble_eq_true rfl, Nat.le_of_ble_eq_true rfl⟩) hK hP hD hS hA rfl rfl rfl hl.1 (Nat.le_of_ble_eq_true rfl) dX1_ahead_36 rfl ⟨Nat.zero_le _, Nat.zero_le _⟩ (fun H locs hP hD hS => ?_)
            refine lv_aload_n hx hb dX1_ahead_39 rfl (lv_at hl 0 rfl) ?_
            refine lv_iload_n hx hb dX1_ahead_40 rfl (lv_at hl 1 rfl) ?_
            refine k_calli (rest := [.int (X1_lax rph rgr rne rap rle rti (nI k)), .int su]) (q0 := 0) hC (c_X1_lax l dC dI cI cZ h a rpt rph rgr rca rne rap rle rfu rba rru rti rtk rsv rgi rpa rth  i hp hl0) (cwV 1 hts gX1_ahead_X1_lax rfl rfl rfl hd_X1_lax ⟨Nat.le_of_ble_eq_true rfl, Nat.le_of_ble_eq_true rfl⟩) hK hP hD hS hA rfl rfl rfl hl.1 (Nat.le_of_ble_eq_true rfl) dX1_ahead_41 rfl ⟨Nat.zero_le _, Nat.zero_le _⟩ (fun H locs hP hD hS => ?_)
            refine lv_icmp_ne (tgt := 56) hx hb dX1_ahead_44 (by decide) (fun c44 => ?_) (fun c44 => ?_)
            · refine lv_iconst (v := 0) hx hb dX1_ahead_56 (by decide) ?_
              refine lv_iadd hx hb dX1_ahead_57 ?_
              refine lv_istore_n (lv' := [(2, .int (su + 0)), (0, .ref h), (1, .int i), (3, .int (nI k))]) hx hb dX1_ahead_58 rfl hl (by decide) rfl (fun ls hl => ?_)
              refine lv_iinc (v := (nI (k + 1))) (lv' := [(3, .int (nI (k + 1))), (2, .int (su + 0)), (0, .ref h), (1, .int i)]) hx hb dX1_ahead_59 hl (k := 3) rfl (nI_1 k) (by decide) rfl (fun ls hl => ?_)
              refine lv_goto (tgt := 4) hx hb dX1_ahead_62 (by decide) ?_
              exact ih (k + 1) (su + 0) (by omega) (by rw [← hR, X1_ahead_L4, if_neg c18, if_neg c31, if_neg c44])  H locs ls hP hD hS (lv_sub hl [2, 3, 1, 0] rfl)
            · refine lv_iload_n hx hb dX1_ahead_47 rfl (lv_at hl 3 rfl) ?_
              refine lv_iload_n hx hb dX1_ahead_48 rfl (lv_at hl 1 rfl) ?_
              refine lv_icmp_ge (tgt := 56) hx hb dX1_ahead_49 (by decide) (fun c49 => ?_) (fun c49 => ?_)
              · refine lv_iconst (v := 0) hx hb dX1_ahead_56 (by decide) ?_
                refine lv_iadd hx hb dX1_ahead_57 ?_
                refine lv_istore_n (lv' := [(2, .int (su + 0)), (0, .ref h), (1, .int i), (3, .int (nI k))]) hx hb dX1_ahead_58 rfl hl (by decide) rfl (fun ls hl => ?_)
                refine lv_iinc (v := (nI (k + 1))) (lv' := [(3, .int (nI (k + 1))), (2, .int (su + 0)), (0, .ref h), (1, .int i)]) hx hb dX1_ahead_59 hl (k := 3) rfl (nI_1 k) (by decide) rfl (fun ls hl => ?_)
                refine lv_goto (tgt := 4) hx hb dX1_ahead_62 (by decide) ?_
                exact ih (k + 1) (su + 0) (by omega) (by rw [← hR, X1_ahead_L4, if_neg c18, if_neg c31, if_pos c44, if_pos c49])  H locs ls hP hD hS (lv_sub hl [2, 3, 1, 0] rfl)
              · refine lv_iconst (v := 1) hx hb dX1_ahead_52 (by decide) ?_
                refine lv_goto (tgt := 57) hx hb dX1_ahead_53 (by decide) ?_
                refine lv_iadd hx hb dX1_ahead_57 ?_
                refine lv_istore_n (lv' := [(2, .int (su + 1)), (0, .ref h), (1, .int i), (3, .int (nI k))]) hx hb dX1_ahead_58 rfl hl (by decide) rfl (fun ls hl => ?_)
                refine lv_iinc (v := (nI (k + 1))) (lv' := [(3, .int (nI (k + 1))), (2, .int (su + 1)), (0, .ref h), (1, .int i)]) hx hb dX1_ahead_59 hl (k := 3) rfl (nI_1 k) (by decide) rfl (fun ls hl => ?_)
                refine lv_goto (tgt := 4) hx hb dX1_ahead_62 (by decide) ?_
                exact ih (k + 1) (su + 1) (by omega) (by rw [← hR, X1_ahead_L4, if_neg c18, if_neg c31, if_pos c44, if_neg c49])  H locs ls hP hD hS (lv_sub hl [2, 3, 1, 0] rfl)
    exact loop4 n 0 0 (by omega) rfl  H locs ls hP hD hS (lv_sub hl [2, 3, 1, 0] rfl)
  exact hW _ _ hP hD hS
def X1_byLaxity_L12 (rph : AR) (rgr : AR) (rca : AR) (rne : AR) (rap : AR) (rle : AR) (rfu : AR) (rti : Int32) (n : Nat) (k : Nat) : Nat → Nat → AR → AR
  | 0, k2, wgi => wgi
  | j2 + 1, k2, wgi => (if (X1_reaches rph rgr rca rne rap rle rti (nI k2)) ≤ 0 then X1_byLaxity_L12 rph rgr rca rne rap rle rfu rti n k j2 (k2 + 1) wgi else (if (X1_ahead rph rgr rca rne rap rle rti n (nI k2)) = (nI k) then (if (X1_reaches rph rgr rca rne rap rle rti (nI k2)) ≤ (X1_room rph rfu wgi n (nI k2)) then X1_byLaxity_L12 rph rgr rca rne rap rle rfu rti n k j2 (k2 + 1) (upd wgi (nI k2).toNatClampNeg (X1_reaches rph rgr rca rne rap rle rti (nI k2))) else X1_byLaxity_L12 rph rgr rca rne rap rle rfu rti n k j2 (k2 + 1) (upd wgi (nI k2).toNatClampNeg (X1_room rph rfu wgi n (nI k2)))) else X1_byLaxity_L12 rph rgr rca rne rap rle rfu rti n k j2 (k2 + 1) wgi))
def X1_byLaxity_L2 (rph : AR) (rgr : AR) (rca : AR) (rne : AR) (rap : AR) (rle : AR) (rfu : AR) (rti : Int32) (n : Nat) : Nat → Nat → AR → AR
  | 0, k, vgi => vgi
  | j + 1, k, vgi => X1_byLaxity_L2 rph rgr rca rne rap rle rfu rti n  j (k + 1) ((X1_byLaxity_L12 rph rgr rca rne rap rle rfu rti n k n 0 vgi))
def X1_byLaxity (rph : AR) (rgr : AR) (rca : AR) (rne : AR) (rap : AR) (rle : AR) (rfu : AR) (rti : Int32) (rgi : AR) (n : Nat) : AR := ((X1_byLaxity_L2 rph rgr rca rne rap rle rfu rti n  n 0 rgi))
abbrev rmX1_byLaxity : Room := { frames := 3, cells := 0, slots := 0, locals := 67 }
theorem hd_X1_byLaxity : yX1_byLaxity.cls = RX1 ∧ yX1_byLaxity.cls ≠ "java/lang/invoke/MethodHandle" ∧ yX1_byLaxity.cls ≠ "java/lang/invoke/VarHandle" ∧ (parseMethodDescriptor yX1_byLaxity.desc).map (fun d => d.parameters.length) = some 0 := by decide +kernel
set_option maxHeartbeats 4000000 in
set_option maxRecDepth 100000 in
theorem c_X1_byLaxity (l : Launch) (dC : Nat → ClassId) (dI : Nat → Nat → Nat) (cI cZ : ClassId) (h : Nat) (a : Nat → Nat) (rpt : Int32) (rph : AR) (rgr : AR) (rca : AR) (rne : AR) (rap : AR) (rle : AR) (rfu : AR) (rba : Int32) (rru : Int32) (rti : Int32) (rtk : Int32) (rsv : Int32) (rgi : AR) (rpa : AR) (rth : Int32) (n : Nat) (hpc : rpt = nI n) (hn : n ≤ 8) (hI : mI rgr rca rap n) : Kv l yX1_byLaxity wsX1_byLaxity rmX1_byLaxity dC dI cI cZ [.ref h] (mW cI cZ h a rpt rph rgr rca rne rap rle rfu rba rru rti rtk rsv rgi rpa rth) (mW cI cZ h a rpt rph rgr rca rne rap rle rfu rba rru rti rtk rsv ((X1_byLaxity rph rgr rca rne rap rle rfu rti rgi n)) rpa rth) := by
  refine k_enter_v (cc := cX1_byLaxity) (maxL := 3) (ret := none) (by decide) rfl (Nat.le_of_ble_eq_true rfl) ?_
  intro p e s m below meth c A ls hC hr hlocks hK hP hD hS hA hl
  generalize List.toArray _ = args at hC ⊢
  obtain ⟨hx, hb, hml, hown, hts⟩ := id hC
  have hret : ∀ (H : Heap) (locs : List Loc) (pc : Nat) (ls : Array Slot), va_S A s.heap H locs → va_P (dC, dI) vwCl (mW cI cZ h a rpt rph rgr rca rne rap rle rfu rba rru rti rtk rsv ((X1_byLaxity rph rgr rca rne rap rle rfu rti rgi n)) rpa rth) H → va_D A (mW cI cZ h a rpt rph rgr rca rne rap rle rfu rba rru rti rtk rsv ((X1_byLaxity rph rgr rca rne rap rle rfu rti rgi n)) rpa rth) → decode cX1_byLaxity pc = .ok (.return_, 1) → W p l e rmX1_byLaxity s m args below meth c H locs 0 0 (MQ below (va_Qv (fun (_ : Unit) => True) (kBeh dC dI A (mW cI cZ h a rpt rph rgr rca rne rap rle rfu rba rru rti rtk rsv ((X1_byLaxity rph rgr rca rne rap rle rfu rti rgi n)) rpa rth)) A) args s 0 0 A) (F0 m pc ls []) := fun H locs pc ls hS hP hD d => k_vret hx hb hr hlocks hS hP hD d
  generalize MQ below _ _ _ _ _ _ = Q at hret ⊢
  have hin : ∀ w ∈ wsX10, w ∈ wsX1_byLaxity := by decide +kernel
  have hw0 := hts (.fieldLink RX1 49 "ChargeParkModel" "points" "I") (by decide +kernel)
  have hw1 := hts (.fieldLink RX1 36 "ChargeParkModel" "given" "[I") (by decide +kernel)
  have hl : lv_has ls 3 [(0, .ref h)] := hl
  have hP : va_P (dC, dI) vwCl (mW cI cZ h a rpt rph rgr rca rne rap rle rfu rba rru rti rtk rsv rgi rpa rth) s.heap := hP
  have hW : ∀ (H : Heap) (locs : List Loc), va_P (dC, dI) vwCl (mW cI cZ h a rpt rph rgr rca rne rap rle rfu rba rru rti rtk rsv rgi rpa rth) H → va_D A (mW cI cZ h a rpt rph rgr rca rne rap rle rfu rba rru rti rtk rsv rgi rpa rth) → va_S A s.heap H locs → W p l e rmX1_byLaxity s m args below meth c H locs 0 0 Q (F0 m 0 ls []) := by
    intro H locs hP hD hS
    refine lv_iconst (v := 0) hx hb dX1_byLaxity_0 (by decide) ?_
    refine lv_istore_n (lv' := [(1, .int 0), (0, .ref h)]) hx hb dX1_byLaxity_1 rfl hl (by decide) rfl (fun ls hl => ?_)
    have cont2 : ∀ (z1 : AR), z1 = (X1_byLaxity_L2 rph rgr rca rne rap rle rfu rti n  n 0 rgi) → ∀ (H : Heap) (locs : List Loc) (ls : Array Slot), va_P (dC, dI) vwCl (mW cI cZ h a rpt rph rgr rca rne rap rle rfu rba rru rti rtk rsv z1 rpa rth) H → va_D A (mW cI cZ h a rpt rph rgr rca rne rap rle rfu rba rru rti rtk rsv z1 rpa rth) → va_S A s.heap H locs → lv_has ls 3 [(0, .ref h)] → W p l e rmX1_byLaxity s m args below meth c H locs 0 0 Q (F0 m 81 ls []) := by
      intro z1 hz1 H locs ls hP hD hS hl
      have hP9 := hP; have hD9 := hD
      subst hz1
      have hP8 : va_P (dC, dI) vwCl (mW cI cZ h a rpt rph rgr rca rne rap rle rfu rba rru rti rtk rsv ((X1_byLaxity rph rgr rca rne rap rle rfu rti rgi n)) rpa rth) H := by rw [X1_byLaxity]; exact hP9
      have hD8 : va_D A (mW cI cZ h a rpt rph rgr rca rne rap rle rfu rba rru rti rtk rsv ((X1_byLaxity rph rgr rca rne rap rle rfu rti rgi n)) rpa rth) := by rw [X1_byLaxity]; exact hD9
      exact hret H locs 81 ls hS hP8 hD8 dX1_byLaxity_81
    have loop2 : ∀ (j k : Nat) (vgi : AR), k + j = n → X1_byLaxity_L2 rph rgr rca rne rap rle rfu rti n  j k vgi = (X1_byLaxity_L2 rph rgr rca rne rap rle rfu rti n  n 0 rgi) → ∀ (H : Heap) (locs : List Loc) (ls : Array Slot), va_P (dC, dI) vwCl (mW cI cZ h a rpt rph rgr rca rne rap rle rfu rba rru rti rtk rsv vgi rpa rth) H → va_D A (mW cI cZ h a rpt rph rgr rca rne rap rle rfu rba rru rti rtk rsv vgi rpa rth) → va_S A s.heap H locs → lv_has ls 3 [(0, .ref h), (1, .int (nI k))] → W p l e rmX1_byLaxity s m args below meth c H locs 0 0 Q (F0 m 2 ls []) := by
      intro j
      induction j with
      | zero =>
        intro k vgi hk hR  H locs ls hP hD hS hl
        refine lv_iload_n hx hb dX1_byLaxity_2 rfl (lv_at hl 1 rfl) ?_
        refine lv_aload_n hx hb dX1_byLaxity_3 rfl (lv_at hl 0 rfl) ?_
        refine va_get (D := (dC, dI)) (ci := 1) (v := .int rpt) (C := RX1) (T := TX1) (N := 16) hx hb hts hin hown hK hP 0 rfl rfl 0 (by decide) hw0 (fun _ h9 => h9) rfl dX1_byLaxity_4 ?_
        refine lv_icmp_ge (tgt := 81) hx hb dX1_byLaxity_7 (by decide) (fun _ => ?_) (fun c => absurd (by rw [hpc]; exact nI_le (by omega) (by omega)) c)
        exact cont2 vgi (by rw [← hR, X1_byLaxity_L2]) H locs ls hP hD hS (lv_sub hl [0] rfl)
      | succ j ih =>
        intro k vgi hk hR  H locs ls hP hD hS hl
        refine lv_iload_n hx hb dX1_byLaxity_2 rfl (lv_at hl 1 rfl) ?_
        refine lv_aload_n hx hb dX1_byLaxity_3 rfl (lv_at hl 0 rfl) ?_
        refine va_get (D := (dC, dI)) (ci := 1) (v := .int rpt) (C := RX1) (T := TX1) (N := 16) hx hb hts hin hown hK hP 0 rfl rfl 0 (by decide) hw0 (fun _ h9 => h9) rfl dX1_byLaxity_4 ?_
        refine lv_icmp_ge (tgt := 81) hx hb dX1_byLaxity_7 (by decide) (fun c => absurd c (by rw [hpc]; exact nI_ge (by omega) (by omega))) (fun _ => ?_)
        refine lv_iconst (v := 0) hx hb dX1_byLaxity_10 (by decide) ?_
        refine lv_istore_n (lv' := [(2, .int 0), (0, .ref h), (1, .int (nI k))]) hx hb dX1_byLaxity_11 rfl hl (by decide) rfl (fun ls hl => ?_)
        have cont12 : ∀ (z2 : AR), z2 = (X1_byLaxity_L12 rph rgr rca rne rap rle rfu rti n k n 0 vgi) → ∀ (H : Heap) (locs : List Loc) (ls : Array Slot), va_P (dC, dI) vwCl (mW cI cZ h a rpt rph rgr rca rne rap rle rfu rba rru rti rtk rsv z2 rpa rth) H → va_D A (mW cI cZ h a rpt rph rgr rca rne rap rle rfu rba rru rti rtk rsv z2 rpa rth) → va_S A s.heap H locs → lv_has ls 3 [(0, .ref h), (1, .int (nI k))] → W p l e rmX1_byLaxity s m args below meth c H locs 0 0 Q (F0 m 75 ls []) := by
          intro z2 hz2 H locs ls hP hD hS hl
          refine lv_iinc (v := (nI (k + 1))) (lv' := [(1, .int (nI (k + 1))), (0, .ref h)]) hx hb dX1_byLaxity_75 hl (k := 1) rfl (nI_1 k) (by decide) rfl (fun ls hl => ?_)
          refine lv_goto (tgt := 2) hx hb dX1_byLaxity_78 (by decide) ?_
          have hP9 := hP; have hD9 := hD; have hl9 := hl; have hR9 := hR; have ih9 := ih
          subst hz2
          exact ih9 (k + 1) ((X1_byLaxity_L12 rph rgr rca rne rap rle rfu rti n k n 0 vgi)) (by omega) (by rw [← hR9, X1_byLaxity_L2])  H locs ls hP9 hD9 hS (lv_sub hl9 [1, 0] rfl)
        have loop12 : ∀ (j2 k2 : Nat) (wgi : AR), k2 + j2 = n → X1_byLaxity_L12 rph rgr rca rne rap rle rfu rti n k j2 k2 wgi = (X1_byLaxity_L12 rph rgr rca rne rap rle rfu rti n k n 0 vgi) → ∀ (H : Heap) (locs : List Loc) (ls : Array Slot), va_P (dC, dI) vwCl (mW cI cZ h a rpt rph rgr rca rne rap rle rfu rba rru rti rtk rsv wgi rpa rth) H → va_D A (mW cI cZ h a rpt rph rgr rca rne rap rle rfu rba rru rti rtk rsv wgi rpa rth) → va_S A s.heap H locs → lv_has ls 3 [(0, .ref h), (1, .int (nI k)), (2, .int (nI k2))] → W p l e rmX1_byLaxity s m args below meth c H locs 0 0 Q (F0 m 12 ls []) := by
          intro j2
          induction j2 with
          | zero =>
            intro k2 wgi hk hR  H locs ls hP hD hS hl
            refine lv_iload_n hx hb dX1_byLaxity_12 rfl (lv_at hl 2 rfl) ?_
            refine lv_aload_n hx hb dX1_byLaxity_13 rfl (lv_at hl 0 rfl) ?_
            refine va_get (D := (dC, dI)) (ci := 1) (v := .int rpt) (C := RX1) (T := TX1) (N := 16) hx hb hts hin hown hK hP 0 rfl rfl 0 (by decide) hw0 (fun _ h9 => h9) rfl dX1_byLaxity_14 ?_
            refine lv_icmp_ge (tgt := 75) hx hb dX1_byLaxity_17 (by decide) (fun _ => ?_) (fun c => absurd (by rw [hpc]; exact nI_le (by omega) (by omega)) c)
            exact cont12 wgi (by rw [← hR, X1_byLaxity_L12]) H locs ls hP hD hS (lv_sub hl [0, 1] rfl)
          | succ j2 ih =>
            intro k2 wgi hk hR  H locs ls hP hD hS hl
            refine lv_iload_n hx hb dX1_byLaxity_12 rfl (lv_at hl 2 rfl) ?_
            refine lv_aload_n hx hb dX1_byLaxity_13 rfl (lv_at hl 0 rfl) ?_
            refine va_get (D := (dC, dI)) (ci := 1) (v := .int rpt) (C := RX1) (T := TX1) (N := 16) hx hb hts hin hown hK hP 0 rfl rfl 0 (by decide) hw0 (fun _ h9 => h9) rfl dX1_byLaxity_14 ?_
            refine lv_icmp_ge (tgt := 75) hx hb dX1_byLaxity_17 (by decide) (fun c => absurd c (by rw [hpc]; exact nI_ge (by omega) (by omega))) (fun _ => ?_)
            refine lv_aload_n hx hb dX1_byLaxity_20 rfl (lv_at hl 0 rfl) ?_
            refine lv_iload_n hx hb dX1_byLaxity_21 rfl (lv_at hl 2 rfl) ?_
            refine k_calli (rest := []) (q0 := 0) hC (c_X1_reaches l dC dI cI cZ h a rpt rph rgr rca rne rap rle rfu rba rru rti rtk rsv wgi rpa rth  (nI k2) (vp_in_nI (by omega) (by decide))) (cwV 1 hts gX1_byLaxity_X1_reaches rfl rfl rfl hd_X1_reaches ⟨Nat.le_of_ble_eq_true rfl, Nat.le_of_ble_eq_true rfl⟩) hK hP hD hS hA rfl rfl rfl hl.1 (Nat.le_of_ble_eq_true rfl) dX1_byLaxity_22 rfl ⟨Nat.zero_le _, Nat.zero_le _⟩ (fun H locs hP hD hS => ?_)
            refine lv_if_le (tgt := 69) hx hb dX1_byLaxity_25 (by decide) (fun c25 => ?_) (fun c25 => ?_)
            · refine lv_iinc (v := (nI (k2 + 1))) (lv' := [(2, .int (nI (k2 + 1))), (0, .ref h), (1, .int (nI k))]) hx hb dX1_byLaxity_69 hl (k := 2) rfl (nI_1 k2) (by decide) rfl (fun ls hl => ?_)
              refine lv_goto (tgt := 12) hx hb dX1_byLaxity_72 (by decide) ?_
              exact ih (k2 + 1) wgi (by omega) (by rw [← hR, X1_byLaxity_L12, if_pos c25])  H locs ls hP hD hS (lv_sub hl [1, 2, 0] rfl)
            · refine lv_aload_n hx hb dX1_byLaxity_28 rfl (lv_at hl 0 rfl) ?_
              refine lv_iload_n hx hb dX1_byLaxity_29 rfl (lv_at hl 2 rfl) ?_
              refine k_calli (rest := []) (q0 := 0) hC (c_X1_ahead l dC dI cI cZ h a rpt rph rgr rca rne rap rle rfu rba rru rti rtk rsv wgi rpa rth n (nI k2) (vp_in_nI (by omega) (by decide)) hpc hn hI (mI_nz hI (by omega) hn (X1_reaches_car c25))) (cwV 1 hts gX1_byLaxity_X1_ahead rfl rfl rfl hd_X1_ahead ⟨Nat.le_of_ble_eq_true rfl, Nat.le_of_ble_eq_true rfl⟩) hK hP hD hS hA rfl rfl rfl hl.1 (Nat.le_of_ble_eq_true rfl) dX1_byLaxity_30 rfl ⟨Nat.zero_le _, Nat.zero_le _⟩ (fun H locs hP hD hS => ?_)
              refine lv_iload_n hx hb dX1_byLaxity_33 rfl (lv_at hl 1 rfl) ?_
              refine lv_icmp_ne (tgt := 69) hx hb dX1_byLaxity_34 (by decide) (fun c34 => ?_) (fun c34 => ?_)
              · refine lv_iinc (v := (nI (k2 + 1))) (lv' := [(2, .int (nI (k2 + 1))), (0, .ref h), (1, .int (nI k))]) hx hb dX1_byLaxity_69 hl (k := 2) rfl (nI_1 k2) (by decide) rfl (fun ls hl => ?_)
                refine lv_goto (tgt := 12) hx hb dX1_byLaxity_72 (by decide) ?_
                exact ih (k2 + 1) wgi (by omega) (by rw [← hR, X1_byLaxity_L12, if_neg c25, if_neg c34])  H locs ls hP hD hS (lv_sub hl [1, 2, 0] rfl)
              · refine lv_aload_n hx hb dX1_byLaxity_37 rfl (lv_at hl 0 rfl) ?_
                refine va_get (D := (dC, dI)) (ci := 1) (v := .ref (a 13)) (C := RX1) (T := TX1) (N := 16) hx hb hts hin hown hK hP 0 rfl rfl 13 (by decide) hw1 (fun _ h9 => h9) rfl dX1_byLaxity_38 ?_
                refine lv_iload_n hx hb dX1_byLaxity_41 rfl (lv_at hl 2 rfl) ?_
                refine lv_aload_n hx hb dX1_byLaxity_42 rfl (lv_at hl 0 rfl) ?_
                refine lv_iload_n hx hb dX1_byLaxity_43 rfl (lv_at hl 2 rfl) ?_
                refine k_calli (rest := [.int (nI k2), .ref (a 13)]) (q0 := 0) hC (c_X1_room l dC dI cI cZ h a rpt rph rgr rca rne rap rle rfu rba rru rti rtk rsv wgi rpa rth n (nI k2) (vp_in_nI (by omega) (by decide)) hpc hn) (cwV 1 hts gX1_byLaxity_X1_room rfl rfl rfl hd_X1_room ⟨Nat.le_of_ble_eq_true rfl, Nat.le_of_ble_eq_true rfl⟩) hK hP hD hS hA rfl rfl rfl hl.1 (Nat.le_of_ble_eq_true rfl) dX1_byLaxity_44 rfl ⟨Nat.zero_le _, Nat.zero_le _⟩ (fun H locs hP hD hS => ?_)
                refine lv_aload_n hx hb dX1_byLaxity_47 rfl (lv_at hl 0 rfl) ?_
                refine lv_iload_n hx hb dX1_byLaxity_48 rfl (lv_at hl 2 rfl) ?_
                refine k_calli (rest := [.int (X1_room rph rfu wgi n (nI k2)), .int (nI k2), .ref (a 13)]) (q0 := 0) hC (c_X1_reaches l dC dI cI cZ h a rpt rph rgr rca rne rap rle rfu rba rru rti rtk rsv wgi rpa rth  (nI k2) (vp_in_nI (by omega) (by decide))) (cwV 1 hts gX1_byLaxity_X1_reaches rfl rfl rfl hd_X1_reaches ⟨Nat.le_of_ble_eq_true rfl, Nat.le_of_ble_eq_true rfl⟩) hK hP hD hS hA rfl rfl rfl hl.1 (Nat.le_of_ble_eq_true rfl) dX1_byLaxity_49 rfl ⟨Nat.zero_le _, Nat.zero_le _⟩ (fun H locs hP hD hS => ?_)
                refine lv_icmp_ge (tgt := 63) hx hb dX1_byLaxity_52 (by decide) (fun c52 => ?_) (fun c52 => ?_)
                · refine lv_aload_n hx hb dX1_byLaxity_63 rfl (lv_at hl 0 rfl) ?_
                  refine lv_iload_n hx hb dX1_byLaxity_64 rfl (lv_at hl 2 rfl) ?_
                  refine k_calli (rest := [.int (nI k2), .ref (a 13)]) (q0 := 0) hC (c_X1_reaches l dC dI cI cZ h a rpt rph rgr rca rne rap rle rfu rba rru rti rtk rsv wgi rpa rth  (nI k2) (vp_in_nI (by omega) (by decide))) (cwV 1 hts gX1_byLaxity_X1_reaches rfl rfl rfl hd_X1_reaches ⟨Nat.le_of_ble_eq_true rfl, Nat.le_of_ble_eq_true rfl⟩) hK hP hD hS hA rfl rfl rfl hl.1 (Nat.le_of_ble_eq_true rfl) dX1_byLaxity_65 rfl ⟨Nat.zero_le _, Nat.zero_le _⟩ (fun H locs hP hD hS => ?_)
                  refine va_iast (f := wgi) hx hb hK hP hD hS 8 0 rfl rfl (vp_in_nI (by omega) (by decide)) dX1_byLaxity_68 (fun H locs hP hD hS => ?_)
                  obtain ⟨z3, hz3⟩ : ∃ z : AR, z = (upd wgi (nI k2).toNatClampNeg (X1_reaches rph rgr rca rne rap rle rti (nI k2))) := ⟨_, rfl⟩
                  rw [← hz3] at hP hD
                  have hP : va_P (dC, dI) vwCl (mW cI cZ h a rpt rph rgr rca rne rap rle rfu rba rru rti rtk rsv z3 rpa rth) H := hP
                  have hD : va_D A (mW cI cZ h a rpt rph rgr rca rne rap rle rfu rba rru rti rtk rsv z3 rpa rth) := hD
                  refine lv_iinc (v := (nI (k2 + 1))) (lv' := [(2, .int (nI (k2 + 1))), (0, .ref h), (1, .int (nI k))]) hx hb dX1_byLaxity_69 hl (k := 2) rfl (nI_1 k2) (by decide) rfl (fun ls hl => ?_)
                  refine lv_goto (tgt := 12) hx hb dX1_byLaxity_72 (by decide) ?_
                  have hP9 := hP; have hD9 := hD; have hl9 := hl; have hR9 := hR; have ih9 := ih
                  subst hz3
                  exact ih9 (k2 + 1) (upd wgi (nI k2).toNatClampNeg (X1_reaches rph rgr rca rne rap rle rti (nI k2))) (by omega) (by rw [← hR9, X1_byLaxity_L12, if_neg c25, if_pos c34, if_pos c52])  H locs ls hP9 hD9 hS (lv_sub hl9 [1, 2, 0] rfl)
                · refine lv_aload_n hx hb dX1_byLaxity_55 rfl (lv_at hl 0 rfl) ?_
                  refine lv_iload_n hx hb dX1_byLaxity_56 rfl (lv_at hl 2 rfl) ?_
                  refine k_calli (rest := [.int (nI k2), .ref (a 13)]) (q0 := 0) hC (c_X1_room l dC dI cI cZ h a rpt rph rgr rca rne rap rle rfu rba rru rti rtk rsv wgi rpa rth n (nI k2) (vp_in_nI (by omega) (by decide)) hpc hn) (cwV 1 hts gX1_byLaxity_X1_room rfl rfl rfl hd_X1_room ⟨Nat.le_of_ble_eq_true rfl, Nat.le_of_ble_eq_true rfl⟩) hK hP hD hS hA rfl rfl rfl hl.1 (Nat.le_of_ble_eq_true rfl) dX1_byLaxity_57 rfl ⟨Nat.zero_le _, Nat.zero_le _⟩ (fun H locs hP hD hS => ?_)
                  refine lv_goto (tgt := 68) hx hb dX1_byLaxity_60 (by decide) ?_
                  refine va_iast (f := wgi) hx hb hK hP hD hS 8 0 rfl rfl (vp_in_nI (by omega) (by decide)) dX1_byLaxity_68 (fun H locs hP hD hS => ?_)
                  obtain ⟨z4, hz4⟩ : ∃ z : AR, z = (upd wgi (nI k2).toNatClampNeg (X1_room rph rfu wgi n (nI k2))) := ⟨_, rfl⟩
                  rw [← hz4] at hP hD
                  have hP : va_P (dC, dI) vwCl (mW cI cZ h a rpt rph rgr rca rne rap rle rfu rba rru rti rtk rsv z4 rpa rth) H := hP
                  have hD : va_D A (mW cI cZ h a rpt rph rgr rca rne rap rle rfu rba rru rti rtk rsv z4 rpa rth) := hD
                  refine lv_iinc (v := (nI (k2 + 1))) (lv' := [(2, .int (nI (k2 + 1))), (0, .ref h), (1, .int (nI k))]) hx hb dX1_byLaxity_69 hl (k := 2) rfl (nI_1 k2) (by decide) rfl (fun ls hl => ?_)
                  refine lv_goto (tgt := 12) hx hb dX1_byLaxity_72 (by decide) ?_
                  have hP9 := hP; have hD9 := hD; have hl9 := hl; have hR9 := hR; have ih9 := ih
                  subst hz4
                  exact ih9 (k2 + 1) (upd wgi (nI k2).toNatClampNeg (X1_room rph rfu wgi n (nI k2))) (by omega) (by rw [← hR9, X1_byLaxity_L12, if_neg c25, if_pos c34, if_neg c52])  H locs ls hP9 hD9 hS (lv_sub hl9 [1, 2, 0] rfl)
        exact loop12 n 0 vgi (by omega) rfl  H locs ls hP hD hS (lv_sub hl [1, 2, 0] rfl)
    exact loop2 n 0 rgi (by omega) rfl  H locs ls hP hD hS (lv_sub hl [1, 0] rfl)
  exact hW _ _ hP hD hS
def X1_fairly_L10 (rph : AR) (rgr : AR) (rca : AR) (rne : AR) (rap : AR) (rle : AR) (rfu : AR) (rti : Int32) (n : Nat) : Nat → Nat → Int32 → AR → AR → Int32 × AR × AR
  | 0, k2, ms, wgi, wpa => (ms, wgi, wpa)
  | j2 + 1, k2, ms, wgi, wpa => (if (X1_reaches rph rgr rca rne rap rle rti (nI k2)) ≤ (wgi (nI k2).toNatClampNeg) then X1_fairly_L10 rph rgr rca rne rap rle rfu rti n  j2 (k2 + 1) ms wgi wpa else (if (wpa (nI k2).toNatClampNeg) = 0 then (if 1 ≤ (X1_room rph rfu wgi n (nI k2)) then (if ((upd wpa (nI k2).toNatClampNeg (vp_nar .boolean 0)) (nI k2).toNatClampNeg) = 0 then X1_fairly_L10 rph rgr rca rne rap rle rfu rti n  j2 (k2 + 1) (ms ||| 1) (upd wgi (nI k2).toNatClampNeg ((wgi (nI k2).toNatClampNeg) + 1)) (upd wpa (nI k2).toNatClampNeg (vp_nar .boolean 0)) else X1_fairly_L10 rph rgr rca rne rap rle rfu rti n  j2 (k2 + 1) (ms ||| 0) (upd wgi (nI k2).toNatClampNeg ((wgi (nI k2).toNatClampNeg) + 0)) (upd wpa (nI k2).toNatClampNeg (vp_nar .boolean 0))) else (if ((upd wpa (nI k2).toNatClampNeg (vp_nar .boolean 1)) (nI k2).toNatClampNeg) = 0 then X1_fairly_L10 rph rgr rca rne rap rle rfu rti n  j2 (k2 + 1) (ms ||| 1) (upd wgi (nI k2).toNatClampNeg ((wgi (nI k2).toNatClampNeg) + 1)) (upd wpa (nI k2).toNatClampNeg (vp_nar .boolean 1)) else X1_fairly_L10 rph rgr rca rne rap rle rfu rti n  j2 (k2 + 1) (ms ||| 0) (upd wgi (nI k2).toNatClampNeg ((wgi (nI k2).toNatClampNeg) + 0)) (upd wpa (nI k2).toNatClampNeg (vp_nar .boolean 1)))) else X1_fairly_L10 rph rgr rca rne rap rle rfu rti n  j2 (k2 + 1) ms wgi wpa))
def X1_fairly_L2_T (rph : AR) (rgr : AR) (rca : AR) (rne : AR) (rap : AR) (rle : AR) (rfu : AR) (rti : Int32) (n : Nat) : Nat → Int32 → AR → AR → Prop
  | 0, _, _, _ => False
  | j + 1, mr, vgi, vpa => (if mr = 0 then True else X1_fairly_L2_T rph rgr rca rne rap rle rfu rti n  j ((X1_fairly_L10 rph rgr rca rne rap rle rfu rti n  n 0 0 vgi vpa).1) ((X1_fairly_L10 rph rgr rca rne rap rle rfu rti n  n 0 0 vgi vpa).2.1) ((X1_fairly_L10 rph rgr rca rne rap rle rfu rti n  n 0 0 vgi vpa).2.2))
def X1_fairly_L2 (rph : AR) (rgr : AR) (rca : AR) (rne : AR) (rap : AR) (rle : AR) (rfu : AR) (rti : Int32) (n : Nat) : Nat → Int32 → AR → AR → Int32 × AR × AR
  | 0, mr, vgi, vpa => (mr, vgi, vpa)
  | j + 1, mr, vgi, vpa => (if mr = 0 then (mr, vgi, vpa) else X1_fairly_L2 rph rgr rca rne rap rle rfu rti n  j ((X1_fairly_L10 rph rgr rca rne rap rle rfu rti n  n 0 0 vgi vpa).1) ((X1_fairly_L10 rph rgr rca rne rap rle rfu rti n  n 0 0 vgi vpa).2.1) ((X1_fairly_L10 rph rgr rca rne rap rle rfu rti n  n 0 0 vgi vpa).2.2))
def X1_fairly (rph : AR) (rgr : AR) (rca : AR) (rne : AR) (rap : AR) (rle : AR) (rfu : AR) (rti : Int32) (rgi : AR) (rpa : AR) (n : Nat) : AR × AR := (((X1_fairly_L2 rph rgr rca rne rap rle rfu rti n  300 1 rgi rpa).2.1), ((X1_fairly_L2 rph rgr rca rne rap rle rfu rti n  300 1 rgi rpa).2.2))
abbrev rmX1_fairly : Room := { frames := 2, cells := 0, slots := 0, locals := 47 }
theorem hd_X1_fairly : yX1_fairly.cls = RX1 ∧ yX1_fairly.cls ≠ "java/lang/invoke/MethodHandle" ∧ yX1_fairly.cls ≠ "java/lang/invoke/VarHandle" ∧ (parseMethodDescriptor yX1_fairly.desc).map (fun d => d.parameters.length) = some 0 := by decide +kernel
set_option maxHeartbeats 4000000 in
set_option maxRecDepth 100000 in
theorem c_X1_fairly (l : Launch) (dC : Nat → ClassId) (dI : Nat → Nat → Nat) (cI cZ : ClassId) (h : Nat) (a : Nat → Nat) (rpt : Int32) (rph : AR) (rgr : AR) (rca : AR) (rne : AR) (rap : AR) (rle : AR) (rfu : AR) (rba : Int32) (rru : Int32) (rti : Int32) (rtk : Int32) (rsv : Int32) (rgi : AR) (rpa : AR) (rth : Int32) (n : Nat) (hpc : rpt = nI n) (hn : n ≤ 8) (hI : mI rgr rca rap n) (hT1 : X1_fairly_L2_T rph rgr rca rne rap rle rfu rti n 300 1 rgi rpa) : Kv l yX1_fairly wsX1_fairly rmX1_fairly dC dI cI cZ [.ref h] (mW cI cZ h a rpt rph rgr rca rne rap rle rfu rba rru rti rtk rsv rgi rpa rth) (mW cI cZ h a rpt rph rgr rca rne rap rle rfu rba rru rti rtk rsv ((X1_fairly rph rgr rca rne rap rle rfu rti rgi rpa n).1) ((X1_fairly rph rgr rca rne rap rle rfu rti rgi rpa n).2) rth) := by
  refine k_enter_v (cc := cX1_fairly) (maxL := 3) (ret := none) (by decide) rfl (Nat.le_of_ble_eq_true rfl) ?_
  intro p e s m below meth c A ls hC hr hlocks hK hP hD hS hA hl
  generalize List.toArray _ = args at hC ⊢
  obtain ⟨hx, hb, hml, hown, hts⟩ := id hC
  have hret : ∀ (H : Heap) (locs : List Loc) (pc : Nat) (ls : Array Slot), va_S A s.heap H locs → va_P (dC, dI) vwCl (mW cI cZ h a rpt rph rgr rca rne rap rle rfu rba rru rti rtk rsv ((X1_fairly rph rgr rca rne rap rle rfu rti rgi rpa n).1) ((X1_fairly rph rgr rca rne rap rle rfu rti rgi rpa n).2) rth) H → va_D A (mW cI cZ h a rpt rph rgr rca rne rap rle rfu rba rru rti rtk rsv ((X1_fairly rph rgr rca rne rap rle rfu rti rgi rpa n).1) ((X1_fairly rph rgr rca rne rap rle rfu rti rgi rpa n).2) rth) → decode cX1_fairly pc = .ok (.return_, 1) → W p l e rmX1_fairly s m args below meth c H locs 0 0 (MQ below (va_Qv (fun (_ : Unit) => True) (kBeh dC dI A (mW cI cZ h a rpt rph rgr rca rne rap rle rfu rba rru rti rtk rsv ((X1_fairly rph rgr rca rne rap rle rfu rti rgi rpa n).1) ((X1_fairly rph rgr rca rne rap rle rfu rti rgi rpa n).2) rth)) A) args s 0 0 A) (F0 m pc ls []) := fun H locs pc ls hS hP hD d => k_vret hx hb hr hlocks hS hP hD d
  generalize MQ below _ _ _ _ _ _ = Q at hret ⊢
  have hin : ∀ w ∈ wsX10, w ∈ wsX1_fairly := by decide +kernel
  have hw0 := hts (.fieldLink RX1 49 "ChargeParkModel" "points" "I") (by decide +kernel)
  have hw1 := hts (.fieldLink RX1 36 "ChargeParkModel" "given" "[I") (by decide +kernel)
  have hw2 := hts (.fieldLink RX1 39 "ChargeParkModel" "passed" "[Z") (by decide +kernel)
  have hl : lv_has ls 3 [(0, .ref h)] := hl
  have hP : va_P (dC, dI) vwCl (mW cI cZ h a rpt rph rgr rca rne rap rle rfu rba rru rti rtk rsv rgi rpa rth) s.heap := hP
  have hW : ∀ (H : Heap) (locs : List Loc), va_P (dC, dI) vwCl (mW cI cZ h a rpt rph rgr rca rne rap rle rfu rba rru rti rtk rsv rgi rpa rth) H → va_D A (mW cI cZ h a rpt rph rgr rca rne rap rle rfu rba rru rti rtk rsv rgi rpa rth) → va_S A s.heap H locs → W p l e rmX1_fairly s m args below meth c H locs 0 0 Q (F0 m 0 ls []) := by
    intro H locs hP hD hS
    refine lv_iconst (v := 1) hx hb dX1_fairly_0 (by decide) ?_
    refine lv_istore_n (lv' := [(1, .int 1), (0, .ref h)]) hx hb dX1_fairly_1 rfl hl (by decide) rfl (fun ls hl => ?_)
    have cont2 : ∀ (z1 : Int32), z1 = (X1_fairly_L2 rph rgr rca rne rap rle rfu rti n  300 1 rgi rpa).1 → ∀ (z2 : AR), z2 = (X1_fairly_L2 rph rgr rca rne rap rle rfu rti n  300 1 rgi rpa).2.1 → ∀ (z3 : AR), z3 = (X1_fairly_L2 rph rgr rca rne rap rle rfu rti n  300 1 rgi rpa).2.2 → ∀ (H : Heap) (locs : List Loc) (ls : Array Slot), va_P (dC, dI) vwCl (mW cI cZ h a rpt rph rgr rca rne rap rle rfu rba rru rti rtk rsv z2 z3 rth) H → va_D A (mW cI cZ h a rpt rph rgr rca rne rap rle rfu rba rru rti rtk rsv z2 z3 rth) → va_S A s.heap H locs → lv_has ls 3 [(0, .ref h), (1, .int z1)] → W p l e rmX1_fairly s m args below meth c H locs 0 0 Q (F0 m 110 ls []) := by
      intro z1 hz1 z2 hz2 z3 hz3 H locs ls hP hD hS hl
      have hP9 := hP; have hD9 := hD
      subst hz1 hz2 hz3
      have hP8 : va_P (dC, dI) vwCl (mW cI cZ h a rpt rph rgr rca rne rap rle rfu rba rru rti rtk rsv ((X1_fairly rph rgr rca rne rap rle rfu rti rgi rpa n).1) ((X1_fairly rph rgr rca rne rap rle rfu rti rgi rpa n).2) rth) H := by rw [X1_fairly]; exact hP9
      have hD8 : va_D A (mW cI cZ h a rpt rph rgr rca rne rap rle rfu rba rru rti rtk rsv ((X1_fairly rph rgr rca rne rap rle rfu rti rgi rpa n).1) ((X1_fairly rph rgr rca rne rap rle rfu rti rgi rpa n).2) rth) := by rw [X1_fairly]; exact hD9
      exact hret H locs 110 ls hS hP8 hD8 dX1_fairly_110
    have loop2 : ∀ (j : Nat) (mr : Int32) (vgi : AR) (vpa : AR), X1_fairly_L2_T rph rgr rca rne rap rle rfu rti n  j mr vgi vpa → X1_fairly_L2 rph rgr rca rne rap rle rfu rti n  j mr vgi vpa = (X1_fairly_L2 rph rgr rca rne rap rle rfu rti n  300 1 rgi rpa) → ∀ (H : Heap) (locs : List Loc) (ls : Array Slot), va_P (dC, dI) vwCl (mW cI cZ h a rpt rph rgr rca rne rap rle rfu rba rru rti rtk rsv vgi vpa rth) H → va_D A (mW cI cZ h a rpt rph rgr rca rne rap rle rfu rba rru rti rtk rsv vgi vpa rth) → va_S A s.heap H locs → lv_has ls 3 [(0, .ref h), (1, .int mr)] → W p l e rmX1_fairly s m args below meth c H locs 0 0 Q (F0 m 2 ls []) := by
      intro j
      induction j with
      | zero =>
        intro mr vgi vpa hT hR  H locs ls hP hD hS hl
        exact absurd hT id
      | succ j ih =>
        intro mr vgi vpa hT hR  H locs ls hP hD hS hl
        refine lv_iload_n hx hb dX1_fairly_2 rfl (lv_at hl 1 rfl) ?_
        refine lv_if_eq (tgt := 110) hx hb dX1_fairly_3 (by decide) (fun c3 => ?_) (fun c3 => ?_)
        · exact cont2 mr (by rw [← hR, X1_fairly_L2, if_pos c3]) vgi (by rw [← hR, X1_fairly_L2, if_pos c3]) vpa (by rw [← hR, X1_fairly_L2, if_pos c3]) H locs ls hP hD hS (lv_sub hl [0, 1] rfl)
        · refine lv_iconst (v := 0) hx hb dX1_fairly_6 (by decide) ?_
          refine lv_istore_n (lv' := [(1, .int 0), (0, .ref h)]) hx hb dX1_fairly_7 rfl hl (by decide) rfl (fun ls hl => ?_)
          refine lv_iconst (v := 0) hx hb dX1_fairly_8 (by decide) ?_
          refine lv_istore_n (lv' := [(2, .int 0), (1, .int 0), (0, .ref h)]) hx hb dX1_fairly_9 rfl hl (by decide) rfl (fun ls hl => ?_)
          have cont10 : ∀ (z4 : Int32), z4 = (X1_fairly_L10 rph rgr rca rne rap rle rfu rti n  n 0 0 vgi vpa).1 → ∀ (z5 : AR), z5 = (X1_fairly_L10 rph rgr rca rne rap rle rfu rti n  n 0 0 vgi vpa).2.1 → ∀ (z6 : AR), z6 = (X1_fairly_L10 rph rgr rca rne rap rle rfu rti n  n 0 0 vgi vpa).2.2 → ∀ (H : Heap) (locs : List Loc) (ls : Array Slot), va_P (dC, dI) vwCl (mW cI cZ h a rpt rph rgr rca rne rap rle rfu rba rru rti rtk rsv z5 z6 rth) H → va_D A (mW cI cZ h a rpt rph rgr rca rne rap rle rfu rba rru rti rtk rsv z5 z6 rth) → va_S A s.heap H locs → lv_has ls 3 [(0, .ref h), (1, .int z4)] → W p l e rmX1_fairly s m args below meth c H locs 0 0 Q (F0 m 107 ls []) := by
            intro z4 hz4 z5 hz5 z6 hz6 H locs ls hP hD hS hl
            refine lv_goto (tgt := 2) hx hb dX1_fairly_107 (by decide) ?_
            have hP9 := hP; have hD9 := hD; have hl9 := hl; have hR9 := hR; have ih9 := ih; have hT9 := hT
            subst hz4 hz5 hz6
            exact ih9 ((X1_fairly_L10 rph rgr rca rne rap rle rfu rti n  n 0 0 vgi vpa).1) ((X1_fairly_L10 rph rgr rca rne rap rle rfu rti n  n 0 0 vgi vpa).2.1) ((X1_fairly_L10 rph rgr rca rne rap rle rfu rti n  n 0 0 vgi vpa).2.2) (by rw [X1_fairly_L2_T, if_neg c3] at hT9; exact hT9) (by rw [← hR9, X1_fairly_L2, if_neg c3])  H locs ls hP9 hD9 hS (lv_sub hl9 [0, 1] rfl)
          have loop10 : ∀ (j2 k2 : Nat) (ms : Int32) (wgi : AR) (wpa : AR), k2 + j2 = n → X1_fairly_L10 rph rgr rca rne rap rle rfu rti n  j2 k2 ms wgi wpa = (X1_fairly_L10 rph rgr rca rne rap rle rfu rti n  n 0 0 vgi vpa) → ∀ (H : Heap) (locs : List Loc) (ls : Array Slot), va_P (dC, dI) vwCl (mW cI cZ h a rpt rph rgr rca rne rap rle rfu rba rru rti rtk rsv wgi wpa rth) H → va_D A (mW cI cZ h a rpt rph rgr rca rne rap rle rfu rba rru rti rtk rsv wgi wpa rth) → va_S A s.heap H locs → lv_has ls 3 [(0, .ref h), (1, .int ms), (2, .int (nI k2))] → W p l e rmX1_fairly s m args below meth c H locs 0 0 Q (F0 m 10 ls []) := by
            intro j2
            induction j2 with
            | zero =>
              intro k2 ms wgi wpa hk hR  H locs ls hP hD hS hl
              refine lv_iload_n hx hb dX1_fairly_10 rfl (lv_at hl 2 rfl) ?_
              refine lv_aload_n hx hb dX1_fairly_11 rfl (lv_at hl 0 rfl) ?_
              refine va_get (D := (dC, dI)) (ci := 1) (v := .int rpt) (C := RX1) (T := TX1) (N := 16) hx hb hts hin hown hK hP 0 rfl rfl 0 (by decide) hw0 (fun _ h9 => h9) rfl dX1_fairly_12 ?_
              refine lv_icmp_ge (tgt := 107) hx hb dX1_fairly_15 (by decide) (fun _ => ?_) (fun c => absurd (by rw [hpc]; exact nI_le (by omega) (by omega)) c)
              exact cont10 ms (by rw [← hR, X1_fairly_L10]) wgi (by rw [← hR, X1_fairly_L10]) wpa (by rw [← hR, X1_fairly_L10]) H locs ls hP hD hS (lv_sub hl [0, 1] rfl)
            | succ j2 ih =>
              intro k2 ms wgi wpa hk hR  H locs ls hP hD hS hl
              refine lv_iload_n hx hb dX1_fairly_10 rfl (lv_at hl 2 rfl) ?_
              refine lv_aload_n hx hb dX1_fairly_11 rfl (lv_at hl 0 rfl) ?_
              refine va_get (D := (dC, dI)) (ci := 1) (v := .int rpt) (C := RX1) (T := TX1) (N := 16) hx hb hts hin hown hK hP 0 rfl rfl 0 (by decide) hw0 (fun _ h9 => h9) rfl dX1_fairly_12 ?_
              refine lv_icmp_ge (tgt := 107) hx hb dX1_fairly_15 (by decide) (fun c => absurd c (by rw [hpc]; exact nI_ge (by omega) (by omega))) (fun _ => ?_)
              refine lv_aload_n hx hb dX1_fairly_18 rfl (lv_at hl 0 rfl) ?_
              refine va_get (D := (dC, dI)) (ci := 1) (v := .ref (a 13)) (C := RX1) (T := TX1) (N := 16) hx hb hts hin hown hK hP 0 rfl rfl 13 (by decide) hw1 (fun _ h9 => h9) rfl dX1_fairly_19 ?_
              refine lv_iload_n hx hb dX1_fairly_22 rfl (lv_at hl 2 rfl) ?_
              refine va_iald (f := wgi) hx hb hK hP 8 0 rfl rfl (vp_in_nI (by omega) (by decide)) dX1_fairly_23 ?_
              refine lv_aload_n hx hb dX1_fairly_24 rfl (lv_at hl 0 rfl) ?_
              refine lv_iload_n hx hb dX1_fairly_25 rfl (lv_at hl 2 rfl) ?_
              refine k_calli (rest := [.int (wgi (nI k2).toNatClampNeg)]) (q0 := 0) hC (c_X1_reaches l dC dI cI cZ h a rpt rph rgr rca rne rap rle rfu rba rru rti rtk rsv wgi wpa rth  (nI k2) (vp_in_nI (by omega) (by decide))) (cwV 1 hts gX1_fairly_X1_reaches rfl rfl rfl hd_X1_reaches ⟨Nat.le_of_ble_eq_true rfl, Nat.le_of_ble_eq_true rfl⟩) hK hP hD hS hA rfl rfl rfl hl.1 (Nat.le_of_ble_eq_true rfl) dX1_fairly_26 rfl ⟨Nat.zero_le _, Nat.zero_le _⟩ (fun H locs hP hD hS => ?_)
              refine lv_icmp_ge (tgt := 101) hx hb dX1_fairly_29 (by decide) (fun c29 => ?_) (fun c29 => ?_)
              · refine lv_iinc (v := (nI (k2 + 1))) (lv' := [(2, .int (nI (k2 + 1))), (0, .ref h), (1, .int ms)]) hx hb dX1_fairly_101 hl (k := 2) rfl (nI_1 k2) (by decide) rfl (fun ls hl => ?_)
                refine lv_goto (tgt := 10) hx hb dX1_fairly_104 (by decide) ?_
                exact ih (k2 + 1) ms wgi wpa (by omega) (by rw [← hR, X1_fairly_L10, if_pos c29])  H locs ls hP hD hS (lv_sub hl [1, 2, 0] rfl)
              · refine lv_aload_n hx hb dX1_fairly_32 rfl (lv_at hl 0 rfl) ?_
                refine va_get (D := (dC, dI)) (ci := 1) (v := .ref (a 14)) (C := RX1) (T := TX1) (N := 16) hx hb hts hin hown hK hP 0 rfl rfl 14 (by decide) hw2 (fun _ h9 => h9) rfl dX1_fairly_33 ?_
                refine lv_iload_n hx hb dX1_fairly_36 rfl (lv_at hl 2 rfl) ?_
                refine va_zald (f := wpa) hx hb hK hP 9 1 rfl rfl (vp_in_nI (by omega) (by decide)) dX1_fairly_37 ?_
                refine lv_if_ne (tgt := 101) hx hb dX1_fairly_38 (by decide) (fun c38 => ?_) (fun c38 => ?_)
                · refine lv_iinc (v := (nI (k2 + 1))) (lv' := [(2, .int (nI (k2 + 1))), (0, .ref h), (1, .int ms)]) hx hb dX1_fairly_101 hl (k := 2) rfl (nI_1 k2) (by decide) rfl (fun ls hl => ?_)
                  refine lv_goto (tgt := 10) hx hb dX1_fairly_104 (by decide) ?_
                  exact ih (k2 + 1) ms wgi wpa (by omega) (by rw [← hR, X1_fairly_L10, if_neg c29, if_neg c38])  H locs ls hP hD hS (lv_sub hl [1, 2, 0] rfl)
                · refine lv_aload_n hx hb dX1_fairly_41 rfl (lv_at hl 0 rfl) ?_
                  refine va_get (D := (dC, dI)) (ci := 1) (v := .ref (a 14)) (C := RX1) (T := TX1) (N := 16) hx hb hts hin hown hK hP 0 rfl rfl 14 (by decide) hw2 (fun _ h9 => h9) rfl dX1_fairly_42 ?_
                  refine lv_iload_n hx hb dX1_fairly_45 rfl (lv_at hl 2 rfl) ?_
                  refine lv_aload_n hx hb dX1_fairly_46 rfl (lv_at hl 0 rfl) ?_
                  refine lv_iload_n hx hb dX1_fairly_47 rfl (lv_at hl 2 rfl) ?_
                  refine k_calli (rest := [.int (nI k2), .ref (a 14)]) (q0 := 0) hC (c_X1_room l dC dI cI cZ h a rpt rph rgr rca rne rap rle rfu rba rru rti rtk rsv wgi wpa rth n (nI k2) (vp_in_nI (by omega) (by decide)) hpc hn) (cwV 1 hts gX1_fairly_X1_room rfl rfl rfl hd_X1_room ⟨Nat.le_of_ble_eq_true rfl, Nat.le_of_ble_eq_true rfl⟩) hK hP hD hS hA rfl rfl rfl hl.1 (Nat.le_of_ble_eq_true rfl) dX1_fairly_48 rfl ⟨Nat.zero_le _, Nat.zero_le _⟩ (fun H locs hP hD hS => ?_)
                  refine lv_iconst (v := 1) hx hb dX1_fairly_51 (by decide) ?_
                  refine lv_icmp_ge (tgt := 59) hx hb dX1_fairly_52 (by decide) (fun c52 => ?_) (fun c52 => ?_)
                  · refine lv_iconst (v := 0) hx hb dX1_fairly_59 (by decide) ?_
                    refine va_zast (f := wpa) hx hb hK hP hD hS 9 1 rfl rfl (vp_in_nI (by omega) (by decide)) dX1_fairly_60 (fun H locs hP hD hS => ?_)
                    obtain ⟨z7, hz7⟩ : ∃ z : AR, z = (upd wpa (nI k2).toNatClampNeg (vp_nar .boolean 0)) := ⟨_, rfl⟩
                    rw [← hz7] at hP hD
                    have hP : va_P (dC, dI) vwCl (mW cI cZ h a rpt rph rgr rca rne rap rle rfu rba rru rti rtk rsv wgi z7 rth) H := hP
                    have hD : va_D A (mW cI cZ h a rpt rph rgr rca rne rap rle rfu rba rru rti rtk rsv wgi z7 rth) := hD
                    refine lv_aload_n hx hb dX1_fairly_61 rfl (lv_at hl 0 rfl) ?_
                    refine va_get (D := (dC, dI)) (ci := 1) (v := .ref (a 13)) (C := RX1) (T := TX1) (N := 16) hx hb hts hin hown hK hP 0 rfl rfl 13 (by decide) hw1 (fun _ h9 => h9) rfl dX1_fairly_62 ?_
                    refine lv_iload_n hx hb dX1_fairly_65 rfl (lv_at hl 2 rfl) ?_
                    refine lv_dup2_11 hx hb dX1_fairly_66 rfl rfl ?_
                    refine va_iald (f := wgi) hx hb hK hP 8 0 rfl rfl (vp_in_nI (by omega) (by decide)) dX1_fairly_67 ?_
                    refine lv_aload_n hx hb dX1_fairly_68 rfl (lv_at hl 0 rfl) ?_
                    refine va_get (D := (dC, dI)) (ci := 1) (v := .ref (a 14)) (C := RX1) (T := TX1) (N := 16) hx hb hts hin hown hK hP 0 rfl rfl 14 (by decide) hw2 (fun _ h9 => h9) rfl dX1_fairly_69 ?_
                    refine lv_iload_n hx hb dX1_fairly_72 rfl (lv_at hl 2 rfl) ?_
                    refine va_zald (f := z7) hx hb hK hP 9 1 rfl rfl (vp_in_nI (by omega) (by decide)) dX1_fairly_73 ?_
                    refine lv_if_eq (tgt := 81) hx hb dX1_fairly_74 (by decide) (fun c74 => ?_) (fun c74 => ?_)
                    · refine lv_iconst (v := 1) hx hb dX1_fairly_81 (by decide) ?_
                      refine lv_iadd hx hb dX1_fairly_82 ?_
                      refine va_iast (f := wgi) hx hb hK hP hD hS 8 0 rfl rfl (vp_in_nI (by omega) (by decide)) dX1_fairly_83 (fun H locs hP hD hS => ?_)
                      obtain ⟨z8, hz8⟩ : ∃ z : AR, z = (upd wgi (nI k2).toNatClampNeg ((wgi (nI k2).toNatClampNeg) + 1)) := ⟨_, rfl⟩
                      rw [← hz8] at hP hD
                      have hP : va_P (dC, dI) vwCl (mW cI cZ h a rpt rph rgr rca rne rap rle rfu rba rru rti rtk rsv z8 z7 rth) H := hP
                      have hD : va_D A (mW cI cZ h a rpt rph rgr rca rne rap rle rfu rba rru rti rtk rsv z8 z7 rth) := hD
                      refine lv_iload_n hx hb dX1_fairly_84 rfl (lv_at hl 1 rfl) ?_
                      refine lv_aload_n hx hb dX1_fairly_85 rfl (lv_at hl 0 rfl) ?_
                      refine va_get (D := (dC, dI)) (ci := 1) (v := .ref (a 14)) (C := RX1) (T := TX1) (N := 16) hx hb hts hin hown hK hP 0 rfl rfl 14 (by decide) hw2 (fun _ h9 => h9) rfl dX1_fairly_86 ?_
                      refine lv_iload_n hx hb dX1_fairly_89 rfl (lv_at hl 2 rfl) ?_
                      refine va_zald (f := z7) hx hb hK hP 9 1 rfl rfl (vp_in_nI (by omega) (by decide)) dX1_fairly_90 ?_
                      refine lv_if_ne (tgt := 98) hx hb dX1_fairly_91 (by decide) (fun c => absurd c74 c) (fun _ => ?_)
                      refine lv_iconst (v := 1) hx hb dX1_fairly_94 (by decide) ?_
                      refine lv_goto (tgt := 99) hx hb dX1_fairly_95 (by decide) ?_
                      refine lv_ior hx hb dX1_fairly_99 ?_
                      refine lv_istore_n (lv' := [(1, .int (ms ||| 1)), (0, .ref h), (2, .int (nI k2))]) hx hb dX1_fairly_100 rfl hl (by decide) rfl (fun ls hl => ?_)
                      refine lv_iinc (v := (nI (k2 + 1))) (lv' := [(2, .int (nI (k2 + 1))), (1, .int (ms ||| 1)), (0, .ref h)]) hx hb dX1_fairly_101 hl (k := 2) rfl (nI_1 k2) (by decide) rfl (fun ls hl => ?_)
                      refine lv_goto (tgt := 10) hx hb dX1_fairly_104 (by decide) ?_
                      have hP9 := hP; have hD9 := hD; have hl9 := hl; have hR9 := hR; have ih9 := ih
                      subst hz7 hz8
                      exact ih9 (k2 + 1) (ms ||| 1) (upd wgi (nI k2).toNatClampNeg ((wgi (nI k2).toNatClampNeg) + 1)) (upd wpa (nI k2).toNatClampNeg (vp_nar .boolean 0)) (by omega) (by rw [← hR9, X1_fairly_L10, if_neg c29, if_pos c38, if_pos c52, if_pos c74])  H locs ls hP9 hD9 hS (lv_sub hl9 [2, 1, 0] rfl)
                    · refine lv_iconst (v := 0) hx hb dX1_fairly_77 (by decide) ?_
                      refine lv_goto (tgt := 82) hx hb dX1_fairly_78 (by decide) ?_
                      refine lv_iadd hx hb dX1_fairly_82 ?_
                      refine va_iast (f := wgi) hx hb hK hP hD hS 8 0 rfl rfl (vp_in_nI (by omega) (by decide)) dX1_fairly_83 (fun H locs hP hD hS => ?_)
                      obtain ⟨z9, hz9⟩ : ∃ z : AR, z = (upd wgi (nI k2).toNatClampNeg ((wgi (nI k2).toNatClampNeg) + 0)) := ⟨_, rfl⟩
                      rw [← hz9] at hP hD
                      have hP : va_P (dC, dI) vwCl (mW cI cZ h a rpt rph rgr rca rne rap rle rfu rba rru rti rtk rsv z9 z7 rth) H := hP
                      have hD : va_D A (mW cI cZ h a rpt rph rgr rca rne rap rle rfu rba rru rti rtk rsv z9 z7 rth) := hD
                      refine lv_iload_n hx hb dX1_fairly_84 rfl (lv_at hl 1 rfl) ?_
                      refine lv_aload_n hx hb dX1_fairly_85 rfl (lv_at hl 0 rfl) ?_
                      refine va_get (D := (dC, dI)) (ci := 1) (v := .ref (a 14)) (C := RX1) (T := TX1) (N := 16) hx hb hts hin hown hK hP 0 rfl rfl 14 (by decide) hw2 (fun _ h9 => h9) rfl dX1_fairly_86 ?_
                      refine lv_iload_n hx hb dX1_fairly_89 rfl (lv_at hl 2 rfl) ?_
                      refine va_zald (f := z7) hx hb hK hP 9 1 rfl rfl (vp_in_nI (by omega) (by decide)) dX1_fairly_90 ?_
                      refine lv_if_ne (tgt := 98) hx hb dX1_fairly_91 (by decide) (fun _ => ?_) (fun c => absurd c c74)
                      refine lv_iconst (v := 0) hx hb dX1_fairly_98 (by decide) ?_
                      refine lv_ior hx hb dX1_fairly_99 ?_
                      refine lv_istore_n (lv' := [(1, .int (ms ||| 0)), (0, .ref h), (2, .int (nI k2))]) hx hb dX1_fairly_100 rfl hl (by decide) rfl (fun ls hl => ?_)
                      refine lv_iinc (v := (nI (k2 + 1))) (lv' := [(2, .int (nI (k2 + 1))), (1, .int (ms ||| 0)), (0, .ref h)]) hx hb dX1_fairly_101 hl (k := 2) rfl (nI_1 k2) (by decide) rfl (fun ls hl => ?_)
                      refine lv_goto (tgt := 10) hx hb dX1_fairly_104 (by decide) ?_
                      have hP9 := hP; have hD9 := hD; have hl9 := hl; have hR9 := hR; have ih9 := ih
                      subst hz7 hz9
                      exact ih9 (k2 + 1) (ms ||| 0) (upd wgi (nI k2).toNatClampNeg ((wgi (nI k2).toNatClampNeg) + 0)) (upd wpa (nI k2).toNatClampNeg (vp_nar .boolean 0)) (by omega) (by rw [← hR9, X1_fairly_L10, if_neg c29, if_pos c38, if_pos c52, if_neg c74])  H locs ls hP9 hD9 hS (lv_sub hl9 [2, 1, 0] rfl)
                  · refine lv_iconst (v := 1) hx hb dX1_fairly_55 (by decide) ?_
                    refine lv_goto (tgt := 60) hx hb dX1_fairly_56 (by decide) ?_
                    refine va_zast (f := wpa) hx hb hK hP hD hS 9 1 rfl rfl (vp_in_nI (by omega) (by decide)) dX1_fairly_60 (fun H locs hP hD hS => ?_)
                    obtain ⟨z10, hz10⟩ : ∃ z : AR, z = (upd wpa (nI k2).toNatClampNeg (vp_nar .boolean 1)) := ⟨_, rfl⟩
                    rw [← hz10] at hP hD
                    have hP : va_P (dC, dI) vwCl (mW cI cZ h a rpt rph rgr rca rne rap rle rfu rba rru rti rtk rsv wgi z10 rth) H := hP
                    have hD : va_D A (mW cI cZ h a rpt rph rgr rca rne rap rle rfu rba rru rti rtk rsv wgi z10 rth) := hD
                    refine lv_aload_n hx hb dX1_fairly_61 rfl (lv_at hl 0 rfl) ?_
                    refine va_get (D := (dC, dI)) (ci := 1) (v := .ref (a 13)) (C := RX1) (T := TX1) (N := 16) hx hb hts hin hown hK hP 0 rfl rfl 13 (by decide) hw1 (fun _ h9 => h9) rfl dX1_fairly_62 ?_
                    refine lv_iload_n hx hb dX1_fairly_65 rfl (lv_at hl 2 rfl) ?_
                    refine lv_dup2_11 hx hb dX1_fairly_66 rfl rfl ?_
                    refine va_iald (f := wgi) hx hb hK hP 8 0 rfl rfl (vp_in_nI (by omega) (by decide)) dX1_fairly_67 ?_
                    refine lv_aload_n hx hb dX1_fairly_68 rfl (lv_at hl 0 rfl) ?_
                    refine va_get (D := (dC, dI)) (ci := 1) (v := .ref (a 14)) (C := RX1) (T := TX1) (N := 16) hx hb hts hin hown hK hP 0 rfl rfl 14 (by decide) hw2 (fun _ h9 => h9) rfl dX1_fairly_69 ?_
                    refine lv_iload_n hx hb dX1_fairly_72 rfl (lv_at hl 2 rfl) ?_
                    refine va_zald (f := z10) hx hb hK hP 9 1 rfl rfl (vp_in_nI (by omega) (by decide)) dX1_fairly_73 ?_
                    refine lv_if_eq (tgt := 81) hx hb dX1_fairly_74 (by decide) (fun c74 => ?_) (fun c74 => ?_)
                    · refine lv_iconst (v := 1) hx hb dX1_fairly_81 (by decide) ?_
                      refine lv_iadd hx hb dX1_fairly_82 ?_
                      refine va_iast (f := wgi) hx hb hK hP hD hS 8 0 rfl rfl (vp_in_nI (by omega) (by decide)) dX1_fairly_83 (fun H locs hP hD hS => ?_)
                      obtain ⟨z11, hz11⟩ : ∃ z : AR, z = (upd wgi (nI k2).toNatClampNeg ((wgi (nI k2).toNatClampNeg) + 1)) := ⟨_, rfl⟩
                      rw [← hz11] at hP hD
                      have hP : va_P (dC, dI) vwCl (mW cI cZ h a rpt rph rgr rca rne rap rle rfu rba rru rti rtk rsv z11 z10 rth) H := hP
                      have hD : va_D A (mW cI cZ h a rpt rph rgr rca rne rap rle rfu rba rru rti rtk rsv z11 z10 rth) := hD
                      refine lv_iload_n hx hb dX1_fairly_84 rfl (lv_at hl 1 rfl) ?_
                      refine lv_aload_n hx hb dX1_fairly_85 rfl (lv_at hl 0 rfl) ?_
                      refine va_get (D := (dC, dI)) (ci := 1) (v := .ref (a 14)) (C := RX1) (T := TX1) (N := 16) hx hb hts hin hown hK hP 0 rfl rfl 14 (by decide) hw2 (fun _ h9 => h9) rfl dX1_fairly_86 ?_
                      refine lv_iload_n hx hb dX1_fairly_89 rfl (lv_at hl 2 rfl) ?_
                      refine va_zald (f := z10) hx hb hK hP 9 1 rfl rfl (vp_in_nI (by omega) (by decide)) dX1_fairly_90 ?_
                      refine lv_if_ne (tgt := 98) hx hb dX1_fairly_91 (by decide) (fun c => absurd c74 c) (fun _ => ?_)
                      refine lv_iconst (v := 1) hx hb dX1_fairly_94 (by decide) ?_
                      refine lv_goto (tgt := 99) hx hb dX1_fairly_95 (by decide) ?_
                      refine lv_ior hx hb dX1_fairly_99 ?_
                      refine lv_istore_n (lv' := [(1, .int (ms ||| 1)), (0, .ref h), (2, .int (nI k2))]) hx hb dX1_fairly_100 rfl hl (by decide) rfl (fun ls hl => ?_)
                      refine lv_iinc (v := (nI (k2 + 1))) (lv' := [(2, .int (nI (k2 + 1))), (1, .int (ms ||| 1)), (0, .ref h)]) hx hb dX1_fairly_101 hl (k := 2) rfl (nI_1 k2) (by decide) rfl (fun ls hl => ?_)
                      refine lv_goto (tgt := 10) hx hb dX1_fairly_104 (by decide) ?_
                      have hP9 := hP; have hD9 := hD; have hl9 := hl; have hR9 := hR; have ih9 := ih
                      subst hz10 hz11
                      exact ih9 (k2 + 1) (ms ||| 1) (upd wgi (nI k2).toNatClampNeg ((wgi (nI k2).toNatClampNeg) + 1)) (upd wpa (nI k2).toNatClampNeg (vp_nar .boolean 1)) (by omega) (by rw [← hR9, X1_fairly_L10, if_neg c29, if_pos c38, if_neg c52, if_pos c74])  H locs ls hP9 hD9 hS (lv_sub hl9 [2, 1, 0] rfl)
                    · refine lv_iconst (v := 0) hx hb dX1_fairly_77 (by decide) ?_
                      refine lv_goto (tgt := 82) hx hb dX1_fairly_78 (by decide) ?_
                      refine lv_iadd hx hb dX1_fairly_82 ?_
                      refine va_iast (f := wgi) hx hb hK hP hD hS 8 0 rfl rfl (vp_in_nI (by omega) (by decide)) dX1_fairly_83 (fun H locs hP hD hS => ?_)
                      obtain ⟨z12, hz12⟩ : ∃ z : AR, z = (upd wgi (nI k2).toNatClampNeg ((wgi (nI k2).toNatClampNeg) + 0)) := ⟨_, rfl⟩
                      rw [← hz12] at hP hD
                      have hP : va_P (dC, dI) vwCl (mW cI cZ h a rpt rph rgr rca rne rap rle rfu rba rru rti rtk rsv z12 z10 rth) H := hP
                      have hD : va_D A (mW cI cZ h a rpt rph rgr rca rne rap rle rfu rba rru rti rtk rsv z12 z10 rth) := hD
                      refine lv_iload_n hx hb dX1_fairly_84 rfl (lv_at hl 1 rfl) ?_
                      refine lv_aload_n hx hb dX1_fairly_85 rfl (lv_at hl 0 rfl) ?_
                      refine va_get (D := (dC, dI)) (ci := 1) (v := .ref (a 14)) (C := RX1) (T := TX1) (N := 16) hx hb hts hin hown hK hP 0 rfl rfl 14 (by decide) hw2 (fun _ h9 => h9) rfl dX1_fairly_86 ?_
                      refine lv_iload_n hx hb dX1_fairly_89 rfl (lv_at hl 2 rfl) ?_
                      refine va_zald (f := z10) hx hb hK hP 9 1 rfl rfl (vp_in_nI (by omega) (by decide)) dX1_fairly_90 ?_
                      refine lv_if_ne (tgt := 98) hx hb dX1_fairly_91 (by decide) (fun _ => ?_) (fun c => absurd c c74)
                      refine lv_iconst (v := 0) hx hb dX1_fairly_98 (by decide) ?_
                      refine lv_ior hx hb dX1_fairly_99 ?_
                      refine lv_istore_n (lv' := [(1, .int (ms ||| 0)), (0, .ref h), (2, .int (nI k2))]) hx hb dX1_fairly_100 rfl hl (by decide) rfl (fun ls hl => ?_)
                      refine lv_iinc (v := (nI (k2 + 1))) (lv' := [(2, .int (nI (k2 + 1))), (1, .int (ms ||| 0)), (0, .ref h)]) hx hb dX1_fairly_101 hl (k := 2) rfl (nI_1 k2) (by decide) rfl (fun ls hl => ?_)
                      refine lv_goto (tgt := 10) hx hb dX1_fairly_104 (by decide) ?_
                      have hP9 := hP; have hD9 := hD; have hl9 := hl; have hR9 := hR; have ih9 := ih
                      subst hz10 hz12
                      exact ih9 (k2 + 1) (ms ||| 0) (upd wgi (nI k2).toNatClampNeg ((wgi (nI k2).toNatClampNeg) + 0)) (upd wpa (nI k2).toNatClampNeg (vp_nar .boolean 1)) (by omega) (by rw [← hR9, X1_fairly_L10, if_neg c29, if_pos c38, if_neg c52, if_neg c74])  H locs ls hP9 hD9 hS (lv_sub hl9 [2, 1, 0] rfl)
          exact loop10 n 0 0 vgi vpa (by omega) rfl  H locs ls hP hD hS (lv_sub hl [2, 1, 0] rfl)
    exact loop2 300 1 rgi rpa hT1 rfl  H locs ls hP hD hS (lv_sub hl [1, 0] rfl)
  exact hW _ _ hP hD hS
def X1_high_L4 (rph : AR) (rgi : AR) (n : Nat) : Nat → Nat → Int32 → Int32
  | 0, k, g => g
  | j + 1, k, g => (if (X1_flows rph rgi n (nI k)) ≤ (X1_flows rph rgi n g) then X1_high_L4 rph rgi n  j (k + 1) g else X1_high_L4 rph rgi n  j (k + 1) (nI k))
def X1_high (rph : AR) (rgi : AR) (n : Nat) : Int32 := ((X1_high_L4 rph rgi n  2 1 0))
abbrev rmX1_high : Room := { frames := 1, cells := 0, slots := 0, locals := 23 }
theorem hd_X1_high : yX1_high.cls = RX1 ∧ yX1_high.cls ≠ "java/lang/invoke/MethodHandle" ∧ yX1_high.cls ≠ "java/lang/invoke/VarHandle" ∧ (parseMethodDescriptor yX1_high.desc).map (fun d => d.parameters.length) = some 0 := by decide +kernel
set_option maxHeartbeats 4000000 in
set_option maxRecDepth 100000 in
theorem c_X1_high (l : Launch) (dC : Nat → ClassId) (dI : Nat → Nat → Nat) (cI cZ : ClassId) (h : Nat) (a : Nat → Nat) (rpt : Int32) (rph : AR) (rgr : AR) (rca : AR) (rne : AR) (rap : AR) (rle : AR) (rfu : AR) (rba : Int32) (rru : Int32) (rti : Int32) (rtk : Int32) (rsv : Int32) (rgi : AR) (rpa : AR) (rth : Int32) (n : Nat) (hpc : rpt = nI n) (hn : n ≤ 8) : Ki l yX1_high wsX1_high rmX1_high dC dI cI cZ [.ref h] (mW cI cZ h a rpt rph rgr rca rne rap rle rfu rba rru rti rtk rsv rgi rpa rth) (mW cI cZ h a rpt rph rgr rca rne rap rle rfu rba rru rti rtk rsv rgi rpa rth) (X1_high rph rgi n) := by
  refine k_enter_i (cc := cX1_high) (maxL := 3) (ret := some .int) (by decide) rfl (Nat.le_of_ble_eq_true rfl) ?_
  intro p e s m below meth c A ls hC hr hlocks hK hP hD hS hA hl
  generalize List.toArray _ = args at hC ⊢
  obtain ⟨hx, hb, hml, hown, hts⟩ := id hC
  have hret : ∀ (H : Heap) (locs : List Loc) (pc : Nat) (ls : Array Slot) (r : Int32), va_S A s.heap H locs → va_P (dC, dI) vwCl (mW cI cZ h a rpt rph rgr rca rne rap rle rfu rba rru rti rtk rsv rgi rpa rth) H → va_D A (mW cI cZ h a rpt rph rgr rca rne rap rle rfu rba rru rti rtk rsv rgi rpa rth) → r = (X1_high rph rgi n) → decode cX1_high pc = .ok (.ireturn, 1) → W p l e rmX1_high s m args below meth c H locs 0 0 (MQ below (va_Qi (fun r (_ : Unit) => r = (X1_high rph rgi n)) (kBeh dC dI A (mW cI cZ h a rpt rph rgr rca rne rap rle rfu rba rru rti rtk rsv rgi rpa rth)) A) args s 0 0 A) (F0 m pc ls [.int r]) := fun H locs pc ls r hS hP hD hv d => k_iret hx hb hr hlocks hS hP hD hv d
  generalize MQ below _ _ _ _ _ _ = Q at hret ⊢
  have hl : lv_has ls 3 [(0, .ref h)] := hl
  have hP : va_P (dC, dI) vwCl (mW cI cZ h a rpt rph rgr rca rne rap rle rfu rba rru rti rtk rsv rgi rpa rth) s.heap := hP
  have hW : ∀ (H : Heap) (locs : List Loc), va_P (dC, dI) vwCl (mW cI cZ h a rpt rph rgr rca rne rap rle rfu rba rru rti rtk rsv rgi rpa rth) H → va_D A (mW cI cZ h a rpt rph rgr rca rne rap rle rfu rba rru rti rtk rsv rgi rpa rth) → va_S A s.heap H locs → W p l e rmX1_high s m args below meth c H locs 0 0 Q (F0 m 0 ls []) := by
    intro H locs hP hD hS
    refine lv_iconst (v := 0) hx hb dX1_high_0 (by decide) ?_
    refine lv_istore_n (lv' := [(1, .int 0), (0, .ref h)]) hx hb dX1_high_1 rfl hl (by decide) rfl (fun ls hl => ?_)
    refine lv_iconst (v := 1) hx hb dX1_high_2 (by decide) ?_
    refine lv_istore_n (lv' := [(2, .int 1), (1, .int 0), (0, .ref h)]) hx hb dX1_high_3 rfl hl (by decide) rfl (fun ls hl => ?_)
    have cont4 : ∀ (z1 : Int32), z1 = (X1_high_L4 rph rgi n  2 1 0) → ∀ (H : Heap) (locs : List Loc) (ls : Array Slot), va_P (dC, dI) vwCl (mW cI cZ h a rpt rph rgr rca rne rap rle rfu rba rru rti rtk rsv rgi rpa rth) H → va_D A (mW cI cZ h a rpt rph rgr rca rne rap rle rfu rba rru rti rtk rsv rgi rpa rth) → va_S A s.heap H locs → lv_has ls 3 [(0, .ref h), (1, .int z1)] → W p l e rmX1_high s m args below meth c H locs 0 0 Q (F0 m 34 ls []) := by
      intro z1 hz1 H locs ls hP hD hS hl
      refine lv_iload_n hx hb dX1_high_34 rfl (lv_at hl 1 rfl) ?_
      have hP9 := hP; have hD9 := hD
      subst hz1
      exact hret H locs 35 ls ((X1_high_L4 rph rgi n  2 1 0)) hS hP9 hD9 (by rw [X1_high]) dX1_high_35
    have loop4 : ∀ (j k : Nat) (g : Int32), k + j = 3 → X1_high_L4 rph rgi n  j k g = (X1_high_L4 rph rgi n  2 1 0) → ∀ (H : Heap) (locs : List Loc) (ls : Array Slot), va_P (dC, dI) vwCl (mW cI cZ h a rpt rph rgr rca rne rap rle rfu rba rru rti rtk rsv rgi rpa rth) H → va_D A (mW cI cZ h a rpt rph rgr rca rne rap rle rfu rba rru rti rtk rsv rgi rpa rth) → va_S A s.heap H locs → lv_has ls 3 [(0, .ref h), (1, .int g), (2, .int (nI k))] → W p l e rmX1_high s m args below meth c H locs 0 0 Q (F0 m 4 ls []) := by
      intro j
      induction j with
      | zero =>
        intro k g hk hR  H locs ls hP hD hS hl
        refine lv_iload_n hx hb dX1_high_4 rfl (lv_at hl 2 rfl) ?_
        refine lv_iconst (v := 3) hx hb dX1_high_5 (by decide) ?_
        refine lv_icmp_ge (tgt := 34) hx hb dX1_high_6 (by decide) (fun _ => ?_) (fun c => absurd (by rw [nIl3]; exact nI_le (by omega) (by omega)) c)
        exact cont4 g (by rw [← hR, X1_high_L4]) H locs ls hP hD hS (lv_sub hl [0, 1] rfl)
      | succ j ih =>
        intro k g hk hR  H locs ls hP hD hS hl
        refine lv_iload_n hx hb dX1_high_4 rfl (lv_at hl 2 rfl) ?_
        refine lv_iconst (v := 3) hx hb dX1_high_5 (by decide) ?_
        refine lv_icmp_ge (tgt := 34) hx hb dX1_high_6 (by decide) (fun c => absurd c (by rw [nIl3]; exact nI_ge (by omega) (by omega))) (fun _ => ?_)
        refine lv_aload_n hx hb dX1_high_9 rfl (lv_at hl 0 rfl) ?_
        refine lv_iload_n hx hb dX1_high_10 rfl (lv_at hl 2 rfl) ?_
        refine k_calli (rest := []) (q0 := 0) hC (c_X1_flows l dC dI cI cZ h a rpt rph rgr rca rne rap rle rfu rba rru rti rtk rsv rgi rpa rth n (nI k) hpc hn) (cwV 1 hts gX1_high_X1_flows rfl rfl rfl hd_X1_flows ⟨Nat.le_of_ble_eq_true rfl, Nat.le_of_ble_eq_true rfl⟩) hK hP hD hS hA rfl rfl rfl hl.1 (Nat.le_of_ble_eq_true rfl) dX1_high_11 rfl ⟨Nat.zero_le _, Nat.zero_le _⟩ (fun H locs hP hD hS => ?_)
        refine lv_aload_n hx hb dX1_high_14 rfl (lv_at hl 0 rfl) ?_
        refine lv_iload_n hx hb dX1_high_15 rfl (lv_at hl 1 rfl) ?_
        refine k_calli (rest := [.int (X1_flows rph rgi n (nI k))]) (q0 := 0) hC (c_X1_flows l dC dI cI cZ h a rpt rph rgr rca rne rap rle rfu rba rru rti rtk rsv rgi rpa rth n g hpc hn) (cwV 1 hts gX1_high_X1_flows rfl rfl rfl hd_X1_flows ⟨Nat.le_of_ble_eq_true rfl, Nat.le_of_ble_eq_true rfl⟩) hK hP hD hS hA rfl rfl rfl hl.1 (Nat.le_of_ble_eq_true rfl) dX1_high_16 rfl ⟨Nat.zero_le _, Nat.zero_le _⟩ (fun H locs hP hD hS => ?_)
        refine lv_icmp_le (tgt := 26) hx hb dX1_high_19 (by decide) (fun c19 => ?_) (fun c19 => ?_)
        · refine lv_iload_n hx hb dX1_high_26 rfl (lv_at hl 1 rfl) ?_
          refine lv_istore_n (lv' := [(1, .int g), (0, .ref h), (2, .int (nI k))]) hx hb dX1_high_27 rfl hl (by decide) rfl (fun ls hl => ?_)
          refine lv_iinc (v := (nI (k + 1))) (lv' := [(2, .int (nI (k + 1))), (1, .int g), (0, .ref h)]) hx hb dX1_high_28 hl (k := 2) rfl (nI_1 k) (by decide) rfl (fun ls hl => ?_)
          refine lv_goto (tgt := 4) hx hb dX1_high_31 (by decide) ?_
          exact ih (k + 1) g (by omega) (by rw [← hR, X1_high_L4, if_pos c19])  H locs ls hP hD hS (lv_sub hl [2, 1, 0] rfl)
        · refine lv_iload_n hx hb dX1_high_22 rfl (lv_at hl 2 rfl) ?_
          refine lv_goto (tgt := 27) hx hb dX1_high_23 (by decide) ?_
          refine lv_istore_n (lv' := [(1, .int (nI k)), (0, .ref h), (2, .int (nI k))]) hx hb dX1_high_27 rfl hl (by decide) rfl (fun ls hl => ?_)
          refine lv_iinc (v := (nI (k + 1))) (lv' := [(2, .int (nI (k + 1))), (1, .int (nI k)), (0, .ref h)]) hx hb dX1_high_28 hl (k := 2) rfl (nI_1 k) (by decide) rfl (fun ls hl => ?_)
          refine lv_goto (tgt := 4) hx hb dX1_high_31 (by decide) ?_
          exact ih (k + 1) (nI k) (by omega) (by rw [← hR, X1_high_L4, if_neg c19])  H locs ls hP hD hS (lv_sub hl [2, 1, 0] rfl)
    exact loop4 2 1 0 (by omega) rfl  H locs ls hP hD hS (lv_sub hl [2, 1, 0] rfl)
  exact hW _ _ hP hD hS
def X1_apart_L8 (rph : AR) (rgi : AR) (n : Nat) : Nat → Nat → Int32 → Int32
  | 0, k, le => le
  | j + 1, k, le => (if le ≤ (X1_flows rph rgi n (nI k)) then X1_apart_L8 rph rgi n  j (k + 1) le else X1_apart_L8 rph rgi n  j (k + 1) (X1_flows rph rgi n (nI k)))
def X1_apart (rph : AR) (rgi : AR) (n : Nat) : Int32 := ((X1_flows rph rgi n (X1_high rph rgi n)) - ((X1_apart_L8 rph rgi n  2 1 (X1_flows rph rgi n 0))))
abbrev rmX1_apart : Room := { frames := 2, cells := 0, slots := 0, locals := 45 }
theorem hd_X1_apart : yX1_apart.cls = RX1 ∧ yX1_apart.cls ≠ "java/lang/invoke/MethodHandle" ∧ yX1_apart.cls ≠ "java/lang/invoke/VarHandle" ∧ (parseMethodDescriptor yX1_apart.desc).map (fun d => d.parameters.length) = some 0 := by decide +kernel
set_option maxHeartbeats 4000000 in
set_option maxRecDepth 100000 in
theorem c_X1_apart (l : Launch) (dC : Nat → ClassId) (dI : Nat → Nat → Nat) (cI cZ : ClassId) (h : Nat) (a : Nat → Nat) (rpt : Int32) (rph : AR) (rgr : AR) (rca : AR) (rne : AR) (rap : AR) (rle : AR) (rfu : AR) (rba : Int32) (rru : Int32) (rti : Int32) (rtk : Int32) (rsv : Int32) (rgi : AR) (rpa : AR) (rth : Int32) (n : Nat) (hpc : rpt = nI n) (hn : n ≤ 8) : Ki l yX1_apart wsX1_apart rmX1_apart dC dI cI cZ [.ref h] (mW cI cZ h a rpt rph rgr rca rne rap rle rfu rba rru rti rtk rsv rgi rpa rth) (mW cI cZ h a rpt rph rgr rca rne rap rle rfu rba rru rti rtk rsv rgi rpa rth) (X1_apart rph rgi n) := by
  refine k_enter_i (cc := cX1_apart) (maxL := 3) (ret := some .int) (by decide) rfl (Nat.le_of_ble_eq_true rfl) ?_
  intro p e s m below meth c A ls hC hr hlocks hK hP hD hS hA hl
  generalize List.toArray _ = args at hC ⊢
  obtain ⟨hx, hb, hml, hown, hts⟩ := id hC
  have hret : ∀ (H : Heap) (locs : List Loc) (pc : Nat) (ls : Array Slot) (r : Int32), va_S A s.heap H locs → va_P (dC, dI) vwCl (mW cI cZ h a rpt rph rgr rca rne rap rle rfu rba rru rti rtk rsv rgi rpa rth) H → va_D A (mW cI cZ h a rpt rph rgr rca rne rap rle rfu rba rru rti rtk rsv rgi rpa rth) → r = (X1_apart rph rgi n) → decode cX1_apart pc = .ok (.ireturn, 1) → W p l e rmX1_apart s m args below meth c H locs 0 0 (MQ below (va_Qi (fun r (_ : Unit) => r = (X1_apart rph rgi n)) (kBeh dC dI A (mW cI cZ h a rpt rph rgr rca rne rap rle rfu rba rru rti rtk rsv rgi rpa rth)) A) args s 0 0 A) (F0 m pc ls [.int r]) := fun H locs pc ls r hS hP hD hv d => k_iret hx hb hr hlocks hS hP hD hv d
  generalize MQ below _ _ _ _ _ _ = Q at hret ⊢
  have hl : lv_has ls 3 [(0, .ref h)] := hl
  have hP : va_P (dC, dI) vwCl (mW cI cZ h a rpt rph rgr rca rne rap rle rfu rba rru rti rtk rsv rgi rpa rth) s.heap := hP
  have hW : ∀ (H : Heap) (locs : List Loc), va_P (dC, dI) vwCl (mW cI cZ h a rpt rph rgr rca rne rap rle rfu rba rru rti rtk rsv rgi rpa rth) H → va_D A (mW cI cZ h a rpt rph rgr rca rne rap rle rfu rba rru rti rtk rsv rgi rpa rth) → va_S A s.heap H locs → W p l e rmX1_apart s m args below meth c H locs 0 0 Q (F0 m 0 ls []) := by
    intro H locs hP hD hS
    refine lv_aload_n hx hb dX1_apart_0 rfl (lv_at hl 0 rfl) ?_
    refine lv_iconst (v := 0) hx hb dX1_apart_1 (by decide) ?_
    refine k_calli (rest := []) (q0 := 0) hC (c_X1_flows l dC dI cI cZ h a rpt rph rgr rca rne rap rle rfu rba rru rti rtk rsv rgi rpa rth n 0 hpc hn) (cwV 1 hts gX1_apart_X1_flows rfl rfl rfl hd_X1_flows ⟨Nat.le_of_ble_eq_true rfl, Nat.le_of_ble_eq_true rfl⟩) hK hP hD hS hA rfl rfl rfl hl.1 (Nat.le_of_ble_eq_true rfl) dX1_apart_2 rfl ⟨Nat.zero_le _, Nat.zero_le _⟩ (fun H locs hP hD hS => ?_)
    refine lv_istore_n (lv' := [(1, .int (X1_flows rph rgi n 0)), (0, .ref h)]) hx hb dX1_apart_5 rfl hl (by decide) rfl (fun ls hl => ?_)
    refine lv_iconst (v := 1) hx hb dX1_apart_6 (by decide) ?_
    refine lv_istore_n (lv' := [(2, .int 1), (1, .int (X1_flows rph rgi n 0)), (0, .ref h)]) hx hb dX1_apart_7 rfl hl (by decide) rfl (fun ls hl => ?_)
    have cont8 : ∀ (z1 : Int32), z1 = (X1_apart_L8 rph rgi n  2 1 (X1_flows rph rgi n 0)) → ∀ (H : Heap) (locs : List Loc) (ls : Array Slot), va_P (dC, dI) vwCl (mW cI cZ h a rpt rph rgr rca rne rap rle rfu rba rru rti rtk rsv rgi rpa rth) H → va_D A (mW cI cZ h a rpt rph rgr rca rne rap rle rfu rba rru rti rtk rsv rgi rpa rth) → va_S A s.heap H locs → lv_has ls 3 [(0, .ref h), (1, .int z1)] → W p l e rmX1_apart s m args below meth c H locs 0 0 Q (F0 m 38 ls []) := by
      intro z1 hz1 H locs ls hP hD hS hl
      refine lv_aload_n hx hb dX1_apart_38 rfl (lv_at hl 0 rfl) ?_
      refine lv_aload_n hx hb dX1_apart_39 rfl (lv_at hl 0 rfl) ?_
      refine k_calli (rest := [.ref h]) (q0 := 0) hC (c_X1_high l dC dI cI cZ h a rpt rph rgr rca rne rap rle rfu rba rru rti rtk rsv rgi rpa rth n  hpc hn) (cwV 0 hts gX1_apart_X1_high rfl rfl rfl hd_X1_high ⟨Nat.le_of_ble_eq_true rfl, Nat.le_of_ble_eq_true rfl⟩) hK hP hD hS hA rfl rfl rfl hl.1 (Nat.le_of_ble_eq_true rfl) dX1_apart_40 rfl ⟨Nat.zero_le _, Nat.zero_le _⟩ (fun H locs hP hD hS => ?_)
      refine k_calli (rest := []) (q0 := 0) hC (c_X1_flows l dC dI cI cZ h a rpt rph rgr rca rne rap rle rfu rba rru rti rtk rsv rgi rpa rth n (X1_high rph rgi n) hpc hn) (cwV 1 hts gX1_apart_X1_flows rfl rfl rfl hd_X1_flows ⟨Nat.le_of_ble_eq_true rfl, Nat.le_of_ble_eq_true rfl⟩) hK hP hD hS hA rfl rfl rfl hl.1 (Nat.le_of_ble_eq_true rfl) dX1_apart_43 rfl ⟨Nat.zero_le _, Nat.zero_le _⟩ (fun H locs hP hD hS => ?_)
      refine lv_iload_n hx hb dX1_apart_46 rfl (lv_at hl 1 rfl) ?_
      refine lv_isub hx hb dX1_apart_47 ?_
      have hP9 := hP; have hD9 := hD
      subst hz1
      exact hret H locs 48 ls ((X1_flows rph rgi n (X1_high rph rgi n)) - ((X1_apart_L8 rph rgi n  2 1 (X1_flows rph rgi n 0)))) hS hP9 hD9 (by rw [X1_apart]) dX1_apart_48
    have loop8 : ∀ (j k : Nat) (le : Int32), k + j = 3 → X1_apart_L8 rph rgi n  j k le = (X1_apart_L8 rph rgi n  2 1 (X1_flows rph rgi n 0)) → ∀ (H : Heap) (locs : List Loc) (ls : Array Slot), va_P (dC, dI) vwCl (mW cI cZ h a rpt rph rgr rca rne rap rle rfu rba rru rti rtk rsv rgi rpa rth) H → va_D A (mW cI cZ h a rpt rph rgr rca rne rap rle rfu rba rru rti rtk rsv rgi rpa rth) → va_S A s.heap H locs → lv_has ls 3 [(0, .ref h), (1, .int le), (2, .int (nI k))] → W p l e rmX1_apart s m args below meth c H locs 0 0 Q (F0 m 8 ls []) := by
      intro j
      induction j with
      | zero =>
        intro k le hk hR  H locs ls hP hD hS hl
        refine lv_iload_n hx hb dX1_apart_8 rfl (lv_at hl 2 rfl) ?_
        refine lv_iconst (v := 3) hx hb dX1_apart_9 (by decide) ?_
        refine lv_icmp_ge (tgt := 38) hx hb dX1_apart_10 (by decide) (fun _ => ?_) (fun c => absurd (by rw [nIl3]; exact nI_le (by omega) (by omega)) c)
        exact cont8 le (by rw [← hR, X1_apart_L8]) H locs ls hP hD hS (lv_sub hl [0, 1] rfl)
      | succ j ih =>
        intro k le hk hR  H locs ls hP hD hS hl
        refine lv_iload_n hx hb dX1_apart_8 rfl (lv_at hl 2 rfl) ?_
        refine lv_iconst (v := 3) hx hb dX1_apart_9 (by decide) ?_
        refine lv_icmp_ge (tgt := 38) hx hb dX1_apart_10 (by decide) (fun c => absurd c (by rw [nIl3]; exact nI_ge (by omega) (by omega))) (fun _ => ?_)
        refine lv_aload_n hx hb dX1_apart_13 rfl (lv_at hl 0 rfl) ?_
        refine lv_iload_n hx hb dX1_apart_14 rfl (lv_at hl 2 rfl) ?_
        refine k_calli (rest := []) (q0 := 0) hC (c_X1_flows l dC dI cI cZ h a rpt rph rgr rca rne rap rle rfu rba rru rti rtk rsv rgi rpa rth n (nI k) hpc hn) (cwV 1 hts gX1_apart_X1_flows rfl rfl rfl hd_X1_flows ⟨Nat.le_of_ble_eq_true rfl, Nat.le_of_ble_eq_true rfl⟩) hK hP hD hS hA rfl rfl rfl hl.1 (Nat.le_of_ble_eq_true rfl) dX1_apart_15 rfl ⟨Nat.zero_le _, Nat.zero_le _⟩ (fun H locs hP hD hS => ?_)
        refine lv_iload_n hx hb dX1_apart_18 rfl (lv_at hl 1 rfl) ?_
        refine lv_icmp_ge (tgt := 30) hx hb dX1_apart_19 (by decide) (fun c19 => ?_) (fun c19 => ?_)
        · refine lv_iload_n hx hb dX1_apart_30 rfl (lv_at hl 1 rfl) ?_
          refine lv_istore_n (lv' := [(1, .int le), (0, .ref h), (2, .int (nI k))]) hx hb dX1_apart_31 rfl hl (by decide) rfl (fun ls hl => ?_)
          refine lv_iinc (v := (nI (k + 1))) (lv' := [(2, .int (nI (k + 1))), (1, .int le), (0, .ref h)]) hx hb dX1_apart_32 hl (k := 2) rfl (nI_1 k) (by decide) rfl (fun ls hl => ?_)
          refine lv_goto (tgt := 8) hx hb dX1_apart_35 (by decide) ?_
          exact ih (k + 1) le (by omega) (by rw [← hR, X1_apart_L8, if_pos c19])  H locs ls hP hD hS (lv_sub hl [2, 1, 0] rfl)
        · refine lv_aload_n hx hb dX1_apart_22 rfl (lv_at hl 0 rfl) ?_
          refine lv_iload_n hx hb dX1_apart_23 rfl (lv_at hl 2 rfl) ?_
          refine k_calli (rest := []) (q0 := 0) hC (c_X1_flows l dC dI cI cZ h a rpt rph rgr rca rne rap rle rfu rba rru rti rtk rsv rgi rpa rth n (nI k) hpc hn) (cwV 1 hts gX1_apart_X1_flows rfl rfl rfl hd_X1_flows ⟨Nat.le_of_ble_eq_true rfl, Nat.le_of_ble_eq_true rfl⟩) hK hP hD hS hA rfl rfl rfl hl.1 (Nat.le_of_ble_eq_true rfl) dX1_apart_24 rfl ⟨Nat.zero_le _, Nat.zero_le _⟩ (fun H locs hP hD hS => ?_)
          refine lv_goto (tgt := 31) hx hb dX1_apart_27 (by decide) ?_
          refine lv_istore_n (lv' := [(1, .int (X1_flows rph rgi n (nI k))), (0, .ref h), (2, .int (nI k))]) hx hb dX1_apart_31 rfl hl (by decide) rfl (fun ls hl => ?_)
          refine lv_iinc (v := (nI (k + 1))) (lv' := [(2, .int (nI (k + 1))), (1, .int (X1_flows rph rgi n (nI k))), (0, .ref h)]) hx hb dX1_apart_32 hl (k := 2) rfl (nI_1 k) (by decide) rfl (fun ls hl => ?_)
          refine lv_goto (tgt := 8) hx hb dX1_apart_35 (by decide) ?_
          exact ih (k + 1) (X1_flows rph rgi n (nI k)) (by omega) (by rw [← hR, X1_apart_L8, if_neg c19])  H locs ls hP hD hS (lv_sub hl [2, 1, 0] rfl)
    exact loop8 2 1 (X1_flows rph rgi n 0) (by omega) rfl  H locs ls hP hD hS (lv_sub hl [2, 1, 0] rfl)
  exact hW _ _ hP hD hS
def X1_giver_L7 (rph : AR) (rgi : AR) (n : Nat) (f : Int32) : Nat → Nat → Int32 → Int32 → Int32 × Int32
  | 0, k, fo, mo => (fo, mo)
  | j + 1, k, fo, mo => (if (rph (nI k).toNatClampNeg) = f then (if (rgi (nI k).toNatClampNeg) < mo then X1_giver_L7 rph rgi n f  j (k + 1) fo mo else X1_giver_L7 rph rgi n f  j (k + 1) (nI k) (rgi (nI k).toNatClampNeg)) else X1_giver_L7 rph rgi n f  j (k + 1) fo mo)
def X1_giver (rph : AR) (rgi : AR) (n : Nat) (f : Int32) : Int32 := ((X1_giver_L7 rph rgi n f  n 0 (-1) 1).1)
abbrev rmX1_giver : Room := { frames := 0, cells := 0, slots := 0, locals := 0 }
theorem hd_X1_giver : yX1_giver.cls = RX1 ∧ yX1_giver.cls ≠ "java/lang/invoke/MethodHandle" ∧ yX1_giver.cls ≠ "java/lang/invoke/VarHandle" ∧ (parseMethodDescriptor yX1_giver.desc).map (fun d => d.parameters.length) = some 1 := by decide +kernel
theorem X1_giver_inL (rph : AR) (rgi : AR) (n : Nat) (f : Int32) (hn : n ≤ 8) : ∀ (j k : Nat) (fo mo : Int32), k + j = n → (fo = -1 ∨ vp_in fo 8) → ((X1_giver_L7 rph rgi n f j k fo mo).1 = -1 ∨ vp_in (X1_giver_L7 rph rgi n f j k fo mo).1 8) := by
  intro j
  induction j with
  | zero => intro k fo mo hk h; rw [X1_giver_L7]; exact h
  | succ j ih =>
    intro k fo mo hk h
    rw [X1_giver_L7]
    split
    · split
      · exact ih _ _ _ (by omega) h
      · exact ih _ _ _ (by omega) (Or.inr (vp_in_nI (by omega) (by decide)))
    · exact ih _ _ _ (by omega) h
theorem X1_giver_in (rph : AR) (rgi : AR) (n : Nat) (f : Int32) (hn : n ≤ 8) (h : ¬ X1_giver rph rgi n f < 0) : vp_in (X1_giver rph rgi n f) 8 := by
  have h1 : X1_giver rph rgi n f = -1 ∨ vp_in (X1_giver rph rgi n f) 8 := by
    rw [X1_giver]
    exact X1_giver_inL rph rgi n f hn n 0 (-1) 1 (by omega) (Or.inl rfl)
  rcases h1 with e | e
  · rw [e] at h; exact absurd (by decide) h
  · exact e
set_option maxHeartbeats 4000000 in
set_option maxRecDepth 100000 in
theorem c_X1_giver (l : Launch) (dC : Nat → ClassId) (dI : Nat → Nat → Nat) (cI cZ : ClassId) (h : Nat) (a : Nat → Nat) (rpt : Int32) (rph : AR) (rgr : AR) (rca : AR) (rne : AR) (rap : AR) (rle : AR) (rfu : AR) (rba : Int32) (rru : Int32) (rti : Int32) (rtk : Int32) (rsv : Int32) (rgi : AR) (rpa : AR) (rth : Int32) (n : Nat) (f : Int32) (hpc : rpt = nI n) (hn : n ≤ 8) : Ki l yX1_giver wsX1_giver rmX1_giver dC dI cI cZ [.ref h, .int f] (mW cI cZ h a rpt rph rgr rca rne rap rle rfu rba rru rti rtk rsv rgi rpa rth) (mW cI cZ h a rpt rph rgr rca rne rap rle rfu rba rru rti rtk rsv rgi rpa rth) (X1_giver rph rgi n f) := by
  refine k_enter_i (cc := cX1_giver) (maxL := 6) (ret := some .int) (by decide) rfl (Nat.le_of_ble_eq_true rfl) ?_
  intro p e s m below meth c A ls hC hr hlocks hK hP hD hS hA hl
  generalize List.toArray _ = args at hC ⊢
  obtain ⟨hx, hb, hml, hown, hts⟩ := id hC
  have hret : ∀ (H : Heap) (locs : List Loc) (pc : Nat) (ls : Array Slot) (r : Int32), va_S A s.heap H locs → va_P (dC, dI) vwCl (mW cI cZ h a rpt rph rgr rca rne rap rle rfu rba rru rti rtk rsv rgi rpa rth) H → va_D A (mW cI cZ h a rpt rph rgr rca rne rap rle rfu rba rru rti rtk rsv rgi rpa rth) → r = (X1_giver rph rgi n f) → decode cX1_giver pc = .ok (.ireturn, 1) → W p l e rmX1_giver s m args below meth c H locs 0 0 (MQ below (va_Qi (fun r (_ : Unit) => r = (X1_giver rph rgi n f)) (kBeh dC dI A (mW cI cZ h a rpt rph rgr rca rne rap rle rfu rba rru rti rtk rsv rgi rpa rth)) A) args s 0 0 A) (F0 m pc ls [.int r]) := fun H locs pc ls r hS hP hD hv d => k_iret hx hb hr hlocks hS hP hD hv d
  generalize MQ below _ _ _ _ _ _ = Q at hret ⊢
  have hin : ∀ w ∈ wsX10, w ∈ wsX1_giver := by decide +kernel
  have hw0 := hts (.fieldLink RX1 49 "ChargeParkModel" "points" "I") (by decide +kernel)
  have hw1 := hts (.fieldLink RX1 7 "ChargeParkModel" "phase" "[I") (by decide +kernel)
  have hw2 := hts (.fieldLink RX1 36 "ChargeParkModel" "given" "[I") (by decide +kernel)
  have hl : lv_has ls 6 [(0, .ref h), (1, .int f)] := hl
  have hP : va_P (dC, dI) vwCl (mW cI cZ h a rpt rph rgr rca rne rap rle rfu rba rru rti rtk rsv rgi rpa rth) s.heap := hP
  have hW : ∀ (H : Heap) (locs : List Loc), va_P (dC, dI) vwCl (mW cI cZ h a rpt rph rgr rca rne rap rle rfu rba rru rti rtk rsv rgi rpa rth) H → va_D A (mW cI cZ h a rpt rph rgr rca rne rap rle rfu rba rru rti rtk rsv rgi rpa rth) → va_S A s.heap H locs → W p l e rmX1_giver s m args below meth c H locs 0 0 Q (F0 m 0 ls []) := by
    intro H locs hP hD hS
    refine lv_iconst (v := (-1)) hx hb dX1_giver_0 (by decide) ?_
    refine lv_istore_n (lv' := [(2, .int (-1)), (0, .ref h), (1, .int f)]) hx hb dX1_giver_1 rfl hl (by decide) rfl (fun ls hl => ?_)
    refine lv_iconst (v := 1) hx hb dX1_giver_2 (by decide) ?_
    refine lv_istore_n (lv' := [(3, .int 1), (2, .int (-1)), (0, .ref h), (1, .int f)]) hx hb dX1_giver_3 rfl hl (by decide) rfl (fun ls hl => ?_)
    refine lv_iconst (v := 0) hx hb dX1_giver_4 (by decide) ?_
    refine lv_istore (lv' := [(4, .int 0), (3, .int 1), (2, .int (-1)), (0, .ref h), (1, .int f)]) hx hb dX1_giver_5 hl (by decide) rfl (fun ls hl => ?_)
    have cont7 : ∀ (z1 : Int32), z1 = (X1_giver_L7 rph rgi n f  n 0 (-1) 1).1 → ∀ (z2 : Int32), z2 = (X1_giver_L7 rph rgi n f  n 0 (-1) 1).2 → ∀ (H : Heap) (locs : List Loc) (ls : Array Slot), va_P (dC, dI) vwCl (mW cI cZ h a rpt rph rgr rca rne rap rle rfu rba rru rti rtk rsv rgi rpa rth) H → va_D A (mW cI cZ h a rpt rph rgr rca rne rap rle rfu rba rru rti rtk rsv rgi rpa rth) → va_S A s.heap H locs → lv_has ls 6 [(0, .ref h), (1, .int f), (2, .int z1), (3, .int z2)] → W p l e rmX1_giver s m args below meth c H locs 0 0 Q (F0 m 80 ls []) := by
      intro z1 hz1 z2 hz2 H locs ls hP hD hS hl
      refine lv_iload_n hx hb dX1_giver_80 rfl (lv_at hl 2 rfl) ?_
      have hP9 := hP; have hD9 := hD
      subst hz1 hz2
      exact hret H locs 81 ls ((X1_giver_L7 rph rgi n f  n 0 (-1) 1).1) hS hP9 hD9 (by rw [X1_giver]) dX1_giver_81
    have loop7 : ∀ (j k : Nat) (fo : Int32) (mo : Int32), k + j = n → X1_giver_L7 rph rgi n f  j k fo mo = (X1_giver_L7 rph rgi n f  n 0 (-1) 1) → ∀ (H : Heap) (locs : List Loc) (ls : Array Slot), va_P (dC, dI) vwCl (mW cI cZ h a rpt rph rgr rca rne rap rle rfu rba rru rti rtk rsv rgi rpa rth) H → va_D A (mW cI cZ h a rpt rph rgr rca rne rap rle rfu rba rru rti rtk rsv rgi rpa rth) → va_S A s.heap H locs → lv_has ls 6 [(0, .ref h), (1, .int f), (2, .int fo), (3, .int mo), (4, .int (nI k))] → W p l e rmX1_giver s m args below meth c H locs 0 0 Q (F0 m 7 ls []) := by
      intro j
      induction j with
      | zero =>
        intro k fo mo hk hR  H locs ls hP hD hS hl
        refine lv_iload hx hb dX1_giver_7 (lv_at hl 4 rfl) ?_
        refine lv_aload_n hx hb dX1_giver_9 rfl (lv_at hl 0 rfl) ?_
        refine va_get (D := (dC, dI)) (ci := 1) (v := .int rpt) (C := RX1) (T := TX1) (N := 16) hx hb hts hin hown hK hP 0 rfl rfl 0 (by decide) hw0 (fun _ h9 => h9) rfl dX1_giver_10 ?_
        refine lv_icmp_ge (tgt := 80) hx hb dX1_giver_13 (by decide) (fun _ => ?_) (fun c => absurd (by rw [hpc]; exact nI_le (by omega) (by omega)) c)
        exact cont7 fo (by rw [← hR, X1_giver_L7]) mo (by rw [← hR, X1_giver_L7]) H locs ls hP hD hS (lv_sub hl [0, 1, 2, 3] rfl)
      | succ j ih =>
        intro k fo mo hk hR  H locs ls hP hD hS hl
        refine lv_iload hx hb dX1_giver_7 (lv_at hl 4 rfl) ?_
        refine lv_aload_n hx hb dX1_giver_9 rfl (lv_at hl 0 rfl) ?_
        refine va_get (D := (dC, dI)) (ci := 1) (v := .int rpt) (C := RX1) (T := TX1) (N := 16) hx hb hts hin hown hK hP 0 rfl rfl 0 (by decide) hw0 (fun _ h9 => h9) rfl dX1_giver_10 ?_
        refine lv_icmp_ge (tgt := 80) hx hb dX1_giver_13 (by decide) (fun c => absurd c (by rw [hpc]; exact nI_ge (by omega) (by omega))) (fun _ => ?_)
        refine lv_aload_n hx hb dX1_giver_16 rfl (lv_at hl 0 rfl) ?_
        refine va_get (D := (dC, dI)) (ci := 1) (v := .ref (a 1)) (C := RX1) (T := TX1) (N := 16) hx hb hts hin hown hK hP 0 rfl rfl 1 (by decide) hw1 (fun _ h9 => h9) rfl dX1_giver_17 ?_
        refine lv_iload hx hb dX1_giver_20 (lv_at hl 4 rfl) ?_
        refine va_iald (f := rph) hx hb hK hP 1 0 rfl rfl (vp_in_nI (by omega) (by decide)) dX1_giver_22 ?_
        refine lv_iload_n hx hb dX1_giver_23 rfl (lv_at hl 1 rfl) ?_
        refine lv_icmp_ne (tgt := 42) hx hb dX1_giver_24 (by decide) (fun c24 => ?_) (fun c24 => ?_)
        · refine lv_iconst (v := 0) hx hb dX1_giver_42 (by decide) ?_
          refine lv_istore (lv' := [(5, .int 0), (0, .ref h), (1, .int f), (2, .int fo), (3, .int mo), (4, .int (nI k))]) hx hb dX1_giver_43 hl (by decide) rfl (fun ls hl => ?_)
          refine lv_iload hx hb dX1_giver_45 (lv_at hl 0 rfl) ?_
          refine lv_if_eq (tgt := 55) hx hb dX1_giver_47 (by decide) (fun _ => ?_) (fun c => absurd (by decide) c)
          refine lv_iload_n hx hb dX1_giver_55 rfl (lv_at hl 3 rfl) ?_
          refine lv_istore_n (lv' := [(2, .int fo), (5, .int 0), (0, .ref h), (1, .int f), (3, .int mo), (4, .int (nI k))]) hx hb dX1_giver_56 rfl hl (by decide) rfl (fun ls hl => ?_)
          refine lv_iload hx hb dX1_giver_57 (lv_at hl 1 rfl) ?_
          refine lv_if_eq (tgt := 72) hx hb dX1_giver_59 (by decide) (fun _ => ?_) (fun c => absurd (by decide) c)
          refine lv_iload_n hx hb dX1_giver_72 rfl (lv_at hl 4 rfl) ?_
          refine lv_istore_n (lv' := [(3, .int mo), (2, .int fo), (5, .int 0), (0, .ref h), (1, .int f), (4, .int (nI k))]) hx hb dX1_giver_73 rfl hl (by decide) rfl (fun ls hl => ?_)
          refine lv_iinc (v := (nI (k + 1))) (lv' := [(4, .int (nI (k + 1))), (3, .int mo), (2, .int fo), (5, .int 0), (0, .ref h), (1, .int f)]) hx hb dX1_giver_74 hl (k := 5) rfl (nI_1 k) (by decide) rfl (fun ls hl => ?_)
          refine lv_goto (tgt := 7) hx hb dX1_giver_77 (by decide) ?_
          exact ih (k + 1) fo mo (by omega) (by rw [← hR, X1_giver_L7, if_neg c24])  H locs ls hP hD hS (lv_sub hl [4, 5, 2, 1, 0] rfl)
        · refine lv_aload_n hx hb dX1_giver_27 rfl (lv_at hl 0 rfl) ?_
          refine va_get (D := (dC, dI)) (ci := 1) (v := .ref (a 13)) (C := RX1) (T := TX1) (N := 16) hx hb hts hin hown hK hP 0 rfl rfl 13 (by decide) hw2 (fun _ h9 => h9) rfl dX1_giver_28 ?_
          refine lv_iload hx hb dX1_giver_31 (lv_at hl 4 rfl) ?_
          refine va_iald (f := rgi) hx hb hK hP 8 0 rfl rfl (vp_in_nI (by omega) (by decide)) dX1_giver_33 ?_
          refine lv_iload_n hx hb dX1_giver_34 rfl (lv_at hl 3 rfl) ?_
          refine lv_icmp_lt (tgt := 42) hx hb dX1_giver_35 (by decide) (fun c35 => ?_) (fun c35 => ?_)
          · refine lv_iconst (v := 0) hx hb dX1_giver_42 (by decide) ?_
            refine lv_istore (lv' := [(5, .int 0), (0, .ref h), (1, .int f), (2, .int fo), (3, .int mo), (4, .int (nI k))]) hx hb dX1_giver_43 hl (by decide) rfl (fun ls hl => ?_)
            refine lv_iload hx hb dX1_giver_45 (lv_at hl 0 rfl) ?_
            refine lv_if_eq (tgt := 55) hx hb dX1_giver_47 (by decide) (fun _ => ?_) (fun c => absurd (by decide) c)
            refine lv_iload_n hx hb dX1_giver_55 rfl (lv_at hl 3 rfl) ?_
            refine lv_istore_n (lv' := [(2, .int fo), (5, .int 0), (0, .ref h), (1, .int f), (3, .int mo), (4, .int (nI k))]) hx hb dX1_giver_56 rfl hl (by decide) rfl (fun ls hl => ?_)
            refine lv_iload hx hb dX1_giver_57 (lv_at hl 1 rfl) ?_
            refine lv_if_eq (tgt := 72) hx hb dX1_giver_59 (by decide) (fun _ => ?_) (fun c => absurd (by decide) c)
            refine lv_iload_n hx hb dX1_giver_72 rfl (lv_at hl 4 rfl) ?_
            refine lv_istore_n (lv' := [(3, .int mo), (2, .int fo), (5, .int 0), (0, .ref h), (1, .int f), (4, .int (nI k))]) hx hb dX1_giver_73 rfl hl (by decide) rfl (fun ls hl => ?_)
            refine lv_iinc (v := (nI (k + 1))) (lv' := [(4, .int (nI (k + 1))), (3, .int mo), (2, .int fo), (5, .int 0), (0, .ref h), (1, .int f)]) hx hb dX1_giver_74 hl (k := 5) rfl (nI_1 k) (by decide) rfl (fun ls hl => ?_)
            refine lv_goto (tgt := 7) hx hb dX1_giver_77 (by decide) ?_
            exact ih (k + 1) fo mo (by omega) (by rw [← hR, X1_giver_L7, if_pos c24, if_pos c35])  H locs ls hP hD hS (lv_sub hl [4, 5, 2, 1, 0] rfl)
          · refine lv_iconst (v := 1) hx hb dX1_giver_38 (by decide) ?_
            refine lv_goto (tgt := 43) hx hb dX1_giver_39 (by decide) ?_
            refine lv_istore (lv' := [(5, .int 1), (0, .ref h), (1, .int f), (2, .int fo), (3, .int mo), (4, .int (nI k))]) hx hb dX1_giver_43 hl (by decide) rfl (fun ls hl => ?_)
            refine lv_iload hx hb dX1_giver_45 (lv_at hl 0 rfl) ?_
            refine lv_if_eq (tgt := 55) hx hb dX1_giver_47 (by decide) (fun c => absurd c (by decide)) (fun _ => ?_)
            refine lv_iload hx hb dX1_giver_50 (lv_at hl 5 rfl) ?_
            refine lv_goto (tgt := 56) hx hb dX1_giver_52 (by decide) ?_
            refine lv_istore_n (lv' := [(2, .int (nI k)), (5, .int 1), (0, .ref h), (1, .int f), (3, .int mo), (4, .int (nI k))]) hx hb dX1_giver_56 rfl hl (by decide) rfl (fun ls hl => ?_)
            refine lv_iload hx hb dX1_giver_57 (lv_at hl 1 rfl) ?_
            refine lv_if_eq (tgt := 72) hx hb dX1_giver_59 (by decide) (fun c => absurd c (by decide)) (fun _ => ?_)
            refine lv_aload_n hx hb dX1_giver_62 rfl (lv_at hl 2 rfl) ?_
            refine va_get (D := (dC, dI)) (ci := 1) (v := .ref (a 13)) (C := RX1) (T := TX1) (N := 16) hx hb hts hin hown hK hP 0 rfl rfl 13 (by decide) hw2 (fun _ h9 => h9) rfl dX1_giver_63 ?_
            refine lv_iload hx hb dX1_giver_66 (lv_at hl 5 rfl) ?_
            refine va_iald (f := rgi) hx hb hK hP 8 0 rfl rfl (vp_in_nI (by omega) (by decide)) dX1_giver_68 ?_
            refine lv_goto (tgt := 73) hx hb dX1_giver_69 (by decide) ?_
            refine lv_istore_n (lv' := [(3, .int (rgi (nI k).toNatClampNeg)), (2, .int (nI k)), (5, .int 1), (0, .ref h), (1, .int f), (4, .int (nI k))]) hx hb dX1_giver_73 rfl hl (by decide) rfl (fun ls hl => ?_)
            refine lv_iinc (v := (nI (k + 1))) (lv' := [(4, .int (nI (k + 1))), (3, .int (rgi (nI k).toNatClampNeg)), (2, .int (nI k)), (5, .int 1), (0, .ref h), (1, .int f)]) hx hb dX1_giver_74 hl (k := 5) rfl (nI_1 k) (by decide) rfl (fun ls hl => ?_)
            refine lv_goto (tgt := 7) hx hb dX1_giver_77 (by decide) ?_
            exact ih (k + 1) (nI k) (rgi (nI k).toNatClampNeg) (by omega) (by rw [← hR, X1_giver_L7, if_pos c24, if_neg c35])  H locs ls hP hD hS (lv_sub hl [4, 5, 2, 1, 0] rfl)
    exact loop7 n 0 (-1) 1 (by omega) rfl  H locs ls hP hD hS (lv_sub hl [3, 4, 2, 1, 0] rfl)
  exact hW _ _ hP hD hS
