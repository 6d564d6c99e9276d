def X1_shares_L46_T (rph : AR) (rba : Int32) (n : Nat) : Nat → AR → Prop
  | 0, _ => False
  | j + 1, vgi => (if (X1_apart rph vgi n) ≤ rba then True else (if (X1_giver rph vgi n (X1_high rph vgi n)) < 0 then True else X1_shares_L46_T rph rba n  j (upd vgi (X1_giver rph vgi n (X1_high rph vgi n)).toNatClampNeg ((vgi (X1_giver rph vgi n (X1_high rph vgi n)).toNatClampNeg) - 1))))
def X1_shares_L46 (rph : AR) (rba : Int32) (n : Nat) : Nat → AR → AR
  | 0, vgi => vgi
  | j + 1, vgi => (if (X1_apart rph vgi n) ≤ rba then vgi else (if (X1_giver rph vgi n (X1_high rph vgi n)) < 0 then vgi else X1_shares_L46 rph rba n  j (upd vgi (X1_giver rph vgi n (X1_high rph vgi n)).toNatClampNeg ((vgi (X1_giver rph vgi n (X1_high rph vgi n)).toNatClampNeg) - 1))))
def X1_shares_L2  (n : Nat) : Nat → Nat → AR → AR → AR × AR
  | 0, k, vgi, vpa => (vgi, vpa)
  | j + 1, k, vgi, vpa => X1_shares_L2 n  j (k + 1) (upd vgi (nI k).toNatClampNeg 0) (upd vpa (nI k).toNatClampNeg (vp_nar .boolean 0))
def X1_shares (rph : AR) (rgr : AR) (rca : AR) (rne : AR) (rap : AR) (rle : AR) (rfu : AR) (rba : Int32) (rru : Int32) (rti : Int32) (rgi : AR) (rpa : AR) (n : Nat) : AR × AR := (if rru = 0 then (((X1_shares_L46 rph rba n  300 ((X1_byLaxity rph rgr rca rne rap rle rfu rti ((X1_shares_L2 n  8 0 rgi rpa).1) n)))), ((X1_shares_L2 n  8 0 rgi rpa).2)) else (((X1_shares_L46 rph rba n  300 ((X1_fairly rph rgr rca rne rap rle rfu rti ((X1_shares_L2 n  8 0 rgi rpa).1) ((X1_shares_L2 n  8 0 rgi rpa).2) n).1))), ((X1_fairly rph rgr rca rne rap rle rfu rti ((X1_shares_L2 n  8 0 rgi rpa).1) ((X1_shares_L2 n  8 0 rgi rpa).2) n).2)))
abbrev rmX1_shares : Room := { frames := 4, cells := 0, slots := 0, locals := 89 }
theorem hd_X1_shares : yX1_shares.cls = RX1 ∧ yX1_shares.cls ≠ "java/lang/invoke/MethodHandle" ∧ yX1_shares.cls ≠ "java/lang/invoke/VarHandle" ∧ (parseMethodDescriptor yX1_shares.desc).map (fun d => d.parameters.length) = some 0 := by decide +kernel
set_option maxHeartbeats 4000000 in
set_option maxRecDepth 100000 in
theorem c_X1_shares (l : Launch) (dC : Nat → ClassId) (dI : Nat → Nat → Nat) (cI cZ : ClassId) (h : Nat) (a : Nat → Nat) (rpt : Int32) (rph : AR) (rgr : AR) (rca : AR) (rne : AR) (rap : AR) (rle : AR) (rfu : AR) (rba : Int32) (rru : Int32) (rti : Int32) (rtk : Int32) (rsv : Int32) (rgi : AR) (rpa : AR) (rth : Int32) (n : Nat) (hpc : rpt = nI n) (hn : n ≤ 8) (hI : mI rgr rca rap n) (hT1 : X1_fairly_L2_T rph rgr rca rne rap rle rfu rti n 300 1 (X1_shares_L2 n 8 0 rgi rpa).1 (X1_shares_L2 n 8 0 rgi rpa).2) (hT2 : X1_shares_L46_T rph rba n 300 (X1_byLaxity rph rgr rca rne rap rle rfu rti (X1_shares_L2 n 8 0 rgi rpa).1 n)) (hT3 : X1_shares_L46_T rph rba n 300 (X1_fairly rph rgr rca rne rap rle rfu rti (X1_shares_L2 n 8 0 rgi rpa).1 (X1_shares_L2 n 8 0 rgi rpa).2 n).1) : Kv l yX1_shares wsX1_shares rmX1_shares dC dI cI cZ [.ref h] (mW cI cZ h a rpt rph rgr rca rne rap rle rfu rba rru rti rtk rsv rgi rpa rth) (mW cI cZ h a rpt rph rgr rca rne rap rle rfu rba rru rti rtk rsv ((X1_shares rph rgr rca rne rap rle rfu rba rru rti rgi rpa n).1) ((X1_shares rph rgr rca rne rap rle rfu rba rru rti rgi rpa n).2) rth) := by
  refine k_enter_v (cc := cX1_shares) (maxL := 2) (ret := none) (by decide) rfl (Nat.le_of_ble_eq_true rfl) ?_
  intro p e s m below meth c A ls hC hr hlocks hK hP hD hS hA hl
  generalize List.toArray _ = args at hC ⊢
  obtain ⟨hx, hb, hml, hown, hts⟩ := id hC
  have hret : ∀ (H : Heap) (locs : List Loc) (pc : Nat) (ls : Array Slot), va_S A s.heap H locs → va_P (dC, dI) vwCl (mW cI cZ h a rpt rph rgr rca rne rap rle rfu rba rru rti rtk rsv ((X1_shares rph rgr rca rne rap rle rfu rba rru rti rgi rpa n).1) ((X1_shares rph rgr rca rne rap rle rfu rba rru rti rgi rpa n).2) rth) H → va_D A (mW cI cZ h a rpt rph rgr rca rne rap rle rfu rba rru rti rtk rsv ((X1_shares rph rgr rca rne rap rle rfu rba rru rti rgi rpa n).1) ((X1_shares rph rgr rca rne rap rle rfu rba rru rti rgi rpa n).2) rth) → decode cX1_shares pc = .ok (.return_, 1) → W p l e rmX1_shares s m args below meth c H locs 0 0 (MQ below (va_Qv (fun (_ : Unit) => True) (kBeh dC dI A (mW cI cZ h a rpt rph rgr rca rne rap rle rfu rba rru rti rtk rsv ((X1_shares rph rgr rca rne rap rle rfu rba rru rti rgi rpa n).1) ((X1_shares rph rgr rca rne rap rle rfu rba rru rti rgi rpa n).2) rth)) A) args s 0 0 A) (F0 m pc ls []) := fun H locs pc ls hS hP hD d => k_vret hx hb hr hlocks hS hP hD d
  generalize MQ below _ _ _ _ _ _ = Q at hret ⊢
  have hin : ∀ w ∈ wsX10, w ∈ wsX1_shares := by decide +kernel
  have hw0 := hts (.fieldLink RX1 52 "ChargeParkModel" "rule" "I") (by decide +kernel)
  have hw1 := hts (.fieldLink RX1 32 "ChargeParkModel" "balance" "I") (by decide +kernel)
  have hw2 := hts (.fieldLink RX1 36 "ChargeParkModel" "given" "[I") (by decide +kernel)
  have hw3 := hts (.fieldLink RX1 39 "ChargeParkModel" "passed" "[Z") (by decide +kernel)
  have hl : lv_has ls 2 [(0, .ref h)] := hl
  have hP : va_P (dC, dI) vwCl (mW cI cZ h a rpt rph rgr rca rne rap rle rfu rba rru rti rtk rsv rgi rpa rth) s.heap := hP
  have hW : ∀ (H : Heap) (locs : List Loc), va_P (dC, dI) vwCl (mW cI cZ h a rpt rph rgr rca rne rap rle rfu rba rru rti rtk rsv rgi rpa rth) H → va_D A (mW cI cZ h a rpt rph rgr rca rne rap rle rfu rba rru rti rtk rsv rgi rpa rth) → va_S A s.heap H locs → W p l e rmX1_shares s m args below meth c H locs 0 0 Q (F0 m 0 ls []) := by
    intro H locs hP hD hS
    refine lv_iconst (v := 0) hx hb dX1_shares_0 (by decide) ?_
    refine lv_istore_n (lv' := [(1, .int 0), (0, .ref h)]) hx hb dX1_shares_1 rfl hl (by decide) rfl (fun ls hl => ?_)
    have cont2 : ∀ (z1 : AR), z1 = (X1_shares_L2 n  8 0 rgi rpa).1 → ∀ (z2 : AR), z2 = (X1_shares_L2 n  8 0 rgi rpa).2 → ∀ (H : Heap) (locs : List Loc) (ls : Array Slot), va_P (dC, dI) vwCl (mW cI cZ h a rpt rph rgr rca rne rap rle rfu rba rru rti rtk rsv z1 z2 rth) H → va_D A (mW cI cZ h a rpt rph rgr rca rne rap rle rfu rba rru rti rtk rsv z1 z2 rth) → va_S A s.heap H locs → lv_has ls 2 [(0, .ref h)] → W p l e rmX1_shares s m args below meth c H locs 0 0 Q (F0 m 28 ls []) := by
      intro z1 hz1 z2 hz2 H locs ls hP hD hS hl
      refine lv_aload_n hx hb dX1_shares_28 rfl (lv_at hl 0 rfl) ?_
      refine va_get (D := (dC, dI)) (ci := 1) (v := .int rru) (C := RX1) (T := TX1) (N := 16) hx hb hts hin hown hK hP 0 rfl rfl 9 (by decide) hw0 (fun _ h9 => h9) rfl dX1_shares_29 ?_
      refine lv_if_ne (tgt := 42) hx hb dX1_shares_32 (by decide) (fun c32 => ?_) (fun c32 => ?_)
      · refine lv_aload_n hx hb dX1_shares_42 rfl (lv_at hl 0 rfl) ?_
        refine k_callv (rest := []) (q0 := 0) hC (c_X1_fairly l dC dI cI cZ h a rpt rph rgr rca rne rap rle rfu rba rru rti rtk rsv z1 z2 rth n  hpc hn hI (by subst hz1 hz2; exact hT1)) (cwV 0 hts gX1_shares_X1_fairly rfl rfl rfl hd_X1_fairly ⟨Nat.le_of_ble_eq_true rfl, Nat.le_of_ble_eq_true rfl⟩) hK hP hD hS hA rfl rfl rfl hl.1 (Nat.le_of_ble_eq_true rfl) dX1_shares_43 rfl ⟨Nat.zero_le _, Nat.zero_le _⟩ (fun H locs hP hD hS => ?_)
        obtain ⟨z3, hz3⟩ : ∃ z : AR, z = ((X1_fairly rph rgr rca rne rap rle rfu rti z1 z2 n).1) := ⟨_, rfl⟩
        rw [← hz3] at hP hD
        obtain ⟨z4, hz4⟩ : ∃ z : AR, z = ((X1_fairly rph rgr rca rne rap rle rfu rti z1 z2 n).2) := ⟨_, rfl⟩
        rw [← hz4] at hP hD
        have hP : va_P (dC, dI) vwCl (mW cI cZ h a rpt rph rgr rca rne rap rle rfu rba rru rti rtk rsv z3 z4 rth) H := hP
        have hD : va_D A (mW cI cZ h a rpt rph rgr rca rne rap rle rfu rba rru rti rtk rsv z3 z4 rth) := hD
        have cont46 : ∀ (z5 : AR), z5 = (X1_shares_L46 rph rba n  300 z3) → ∀ (H : Heap) (locs : List Loc) (ls : Array Slot), va_P (dC, dI) vwCl (mW cI cZ h a rpt rph rgr rca rne rap rle rfu rba rru rti rtk rsv z5 z4 rth) H → va_D A (mW cI cZ h a rpt rph rgr rca rne rap rle rfu rba rru rti rtk rsv z5 z4 rth) → va_S A s.heap H locs → lv_has ls 2 [(0, .ref h)] → W p l e rmX1_shares s m args below meth c H locs 0 0 Q (F0 m 88 ls []) := by
          intro z5 hz5 H locs ls hP hD hS hl
          have hP9 := hP; have hD9 := hD
          subst hz1 hz2 hz3 hz4 hz5
          have hP8 : va_P (dC, dI) vwCl (mW cI cZ h a rpt rph rgr rca rne rap rle rfu rba rru rti rtk rsv ((X1_shares rph rgr rca rne rap rle rfu rba rru rti rgi rpa n).1) ((X1_shares rph rgr rca rne rap rle rfu rba rru rti rgi rpa n).2) rth) H := by rw [X1_shares, if_neg c32]; exact hP9
          have hD8 : va_D A (mW cI cZ h a rpt rph rgr rca rne rap rle rfu rba rru rti rtk rsv ((X1_shares rph rgr rca rne rap rle rfu rba rru rti rgi rpa n).1) ((X1_shares rph rgr rca rne rap rle rfu rba rru rti rgi rpa n).2) rth) := by rw [X1_shares, if_neg c32]; exact hD9
          exact hret H locs 88 ls hS hP8 hD8 dX1_shares_88
        have loop46 : ∀ (j : Nat) (vgi : AR), X1_shares_L46_T rph rba n  j vgi → X1_shares_L46 rph rba n  j vgi = (X1_shares_L46 rph rba n  300 z3) → ∀ (H : Heap) (locs : List Loc) (ls : Array Slot), va_P (dC, dI) vwCl (mW cI cZ h a rpt rph rgr rca rne rap rle rfu rba rru rti rtk rsv vgi z4 rth) H → va_D A (mW cI cZ h a rpt rph rgr rca rne rap rle rfu rba rru rti rtk rsv vgi z4 rth) → va_S A s.heap H locs → lv_has ls 2 [(0, .ref h)] → W p l e rmX1_shares s m args below meth c H locs 0 0 Q (F0 m 46 ls []) := by
          intro j
          induction j with
          | zero =>
            intro vgi hT hR  H locs ls hP hD hS hl
            exact absurd hT id
          | succ j ih =>
            intro vgi hT hR  H locs ls hP hD hS hl
            refine lv_aload_n hx hb dX1_shares_46 rfl (lv_at hl 0 rfl) ?_
            refine k_calli (rest := []) (q0 := 0) hC (c_X1_apart l dC dI cI cZ h a rpt rph rgr rca rne rap rle rfu rba rru rti rtk rsv vgi z4 rth n  hpc hn) (cwV 0 hts gX1_shares_X1_apart rfl rfl rfl hd_X1_apart ⟨Nat.le_of_ble_eq_true rfl, Nat.le_of_ble_eq_true rfl⟩) hK hP hD hS hA rfl rfl rfl hl.1 (Nat.le_of_ble_eq_true rfl) dX1_shares_47 rfl ⟨Nat.zero_le _, Nat.zero_le _⟩ (fun H locs hP hD hS => ?_)
            refine lv_aload_n hx hb dX1_shares_50 rfl (lv_at hl 0 rfl) ?_
            refine va_get (D := (dC, dI)) (ci := 1) (v := .int rba) (C := RX1) (T := TX1) (N := 16) hx hb hts hin hown hK hP 0 rfl rfl 8 (by decide) hw1 (fun _ h9 => h9) rfl dX1_shares_51 ?_
            refine lv_icmp_le (tgt := 88) hx hb dX1_shares_54 (by decide) (fun c54 => ?_) (fun c54 => ?_)
            · have hP9 := hP; have hD9 := hD; have hl9 := hl; have hR9 := hR
              subst hz1 hz2 hz3 hz4
              exact cont46 vgi (by rw [← hR9, X1_shares_L46, if_pos c54]) H locs ls hP9 hD9 hS (lv_sub hl9 [0] rfl)
            · refine lv_aload_n hx hb dX1_shares_57 rfl (lv_at hl 0 rfl) ?_
              refine lv_aload_n hx hb dX1_shares_58 rfl (lv_at hl 0 rfl) ?_
              refine k_calli (rest := [.ref h]) (q0 := 0) hC (c_X1_high l dC dI cI cZ h a rpt rph rgr rca rne rap rle rfu rba rru rti rtk rsv vgi z4 rth n  hpc hn) (cwV 0 hts gX1_shares_X1_high rfl rfl rfl hd_X1_high ⟨Nat.le_of_ble_eq_true rfl, Nat.le_of_ble_eq_true rfl⟩) hK hP hD hS hA rfl rfl rfl hl.1 (Nat.le_of_ble_eq_true rfl) dX1_shares_59 rfl ⟨Nat.zero_le _, Nat.zero_le _⟩ (fun H locs hP hD hS => ?_)
              refine k_calli (rest := []) (q0 := 0) hC (c_X1_giver l dC dI cI cZ h a rpt rph rgr rca rne rap rle rfu rba rru rti rtk rsv vgi z4 rth n (X1_high rph vgi n) hpc hn) (cwV 1 hts gX1_shares_X1_giver rfl rfl rfl hd_X1_giver ⟨Nat.le_of_ble_eq_true rfl, Nat.le_of_ble_eq_true rfl⟩) hK hP hD hS hA rfl rfl rfl hl.1 (Nat.le_of_ble_eq_true rfl) dX1_shares_62 rfl ⟨Nat.zero_le _, Nat.zero_le _⟩ (fun H locs hP hD hS => ?_)
              refine lv_if_lt (tgt := 88) hx hb dX1_shares_65 (by decide) (fun c65 => ?_) (fun c65 => ?_)
              · have hP9 := hP; have hD9 := hD; have hl9 := hl; have hR9 := hR
                subst hz1 hz2 hz3 hz4
                exact cont46 vgi (by rw [← hR9, X1_shares_L46, if_neg c54, if_pos c65]) H locs ls hP9 hD9 hS (lv_sub hl9 [0] rfl)
              · refine lv_aload_n hx hb dX1_shares_68 rfl (lv_at hl 0 rfl) ?_
                refine va_get (D := (dC, dI)) (ci := 1) (v := .ref (a 13)) (C := RX1) (T := TX1) (N := 16) hx hb hts hin hown hK hP 0 rfl rfl 13 (by decide) hw2 (fun _ h9 => h9) rfl dX1_shares_69 ?_
                refine lv_aload_n hx hb dX1_shares_72 rfl (lv_at hl 0 rfl) ?_
                refine lv_aload_n hx hb dX1_shares_73 rfl (lv_at hl 0 rfl) ?_
                refine k_calli (rest := [.ref h, .ref (a 13)]) (q0 := 0) hC (c_X1_high l dC dI cI cZ h a rpt rph rgr rca rne rap rle rfu rba rru rti rtk rsv vgi z4 rth n  hpc hn) (cwV 0 hts gX1_shares_X1_high rfl rfl rfl hd_X1_high ⟨Nat.le_of_ble_eq_true rfl, Nat.le_of_ble_eq_true rfl⟩) hK hP hD hS hA rfl rfl rfl hl.1 (Nat.le_of_ble_eq_true rfl) dX1_shares_74 rfl ⟨Nat.zero_le _, Nat.zero_le _⟩ (fun H locs hP hD hS => ?_)
                refine k_calli (rest := [.ref (a 13)]) (q0 := 0) hC (c_X1_giver l dC dI cI cZ h a rpt rph rgr rca rne rap rle rfu rba rru rti rtk rsv vgi z4 rth n (X1_high rph vgi n) hpc hn) (cwV 1 hts gX1_shares_X1_giver rfl rfl rfl hd_X1_giver ⟨Nat.le_of_ble_eq_true rfl, Nat.le_of_ble_eq_true rfl⟩) hK hP hD hS hA rfl rfl rfl hl.1 (Nat.le_of_ble_eq_true rfl) dX1_shares_77 rfl ⟨Nat.zero_le _, Nat.zero_le _⟩ (fun H locs hP hD hS => ?_)
                refine lv_dup2_11 hx hb dX1_shares_80 rfl rfl ?_
                refine va_iald (f := vgi) hx hb hK hP 8 0 rfl rfl (X1_giver_in _ _ n _ hn c65) dX1_shares_81 ?_
                refine lv_iconst (v := 1) hx hb dX1_shares_82 (by decide) ?_
                refine lv_isub hx hb dX1_shares_83 ?_
                refine va_iast (f := vgi) hx hb hK hP hD hS 8 0 rfl rfl (X1_giver_in _ _ n _ hn c65) dX1_shares_84 (fun H locs hP hD hS => ?_)
                obtain ⟨z6, hz6⟩ : ∃ z : AR, z = (upd vgi (X1_giver rph vgi n (X1_high rph vgi n)).toNatClampNeg ((vgi (X1_giver rph vgi n (X1_high rph vgi n)).toNatClampNeg) - 1)) := ⟨_, rfl⟩
                rw [← hz6] at hP hD
                have hP : va_P (dC, dI) vwCl (mW cI cZ h a rpt rph rgr rca rne rap rle rfu rba rru rti rtk rsv z6 z4 rth) H := hP
                have hD : va_D A (mW cI cZ h a rpt rph rgr rca rne rap rle rfu rba rru rti rtk rsv z6 z4 rth) := hD
                refine lv_goto (tgt := 46) hx hb dX1_shares_85 (by decide) ?_
                have hP9 := hP; have hD9 := hD; have hl9 := hl; have hR9 := hR; have ih9 := ih; have hT9 := hT
                subst hz1 hz2 hz3 hz4 hz6
                exact ih9 (upd vgi (X1_giver rph vgi n (X1_high rph vgi n)).toNatClampNeg ((vgi (X1_giver rph vgi n (X1_high rph vgi n)).toNatClampNeg) - 1)) (by rw [X1_shares_L46_T, if_neg c54, if_neg c65] at hT9; exact hT9) (by rw [← hR9, X1_shares_L46, if_neg c54, if_neg c65])  H locs ls hP9 hD9 hS (lv_sub hl9 [0] rfl)
        exact loop46 300 z3 (by subst hz1 hz2 hz3 hz4; exact hT3) rfl  H locs ls hP hD hS (lv_sub hl [0] rfl)
      · refine lv_aload_n hx hb dX1_shares_35 rfl (lv_at hl 0 rfl) ?_
        refine k_callv (rest := []) (q0 := 0) hC (c_X1_byLaxity l dC dI cI cZ h a rpt rph rgr rca rne rap rle rfu rba rru rti rtk rsv z1 z2 rth n  hpc hn hI) (cwV 0 hts gX1_shares_X1_byLaxity rfl rfl rfl hd_X1_byLaxity ⟨Nat.le_of_ble_eq_true rfl, Nat.le_of_ble_eq_true rfl⟩) hK hP hD hS hA rfl rfl rfl hl.1 (Nat.le_of_ble_eq_true rfl) dX1_shares_36 rfl ⟨Nat.zero_le _, Nat.zero_le _⟩ (fun H locs hP hD hS => ?_)
        obtain ⟨z7, hz7⟩ : ∃ z : AR, z = ((X1_byLaxity rph rgr rca rne rap rle rfu rti z1 n)) := ⟨_, rfl⟩
        rw [← hz7] at hP hD
        have hP : va_P (dC, dI) vwCl (mW cI cZ h a rpt rph rgr rca rne rap rle rfu rba rru rti rtk rsv z7 z2 rth) H := hP
        have hD : va_D A (mW cI cZ h a rpt rph rgr rca rne rap rle rfu rba rru rti rtk rsv z7 z2 rth) := hD
        refine lv_goto (tgt := 46) hx hb dX1_shares_39 (by decide) ?_
        have cont46 : ∀ (z8 : AR), z8 = (X1_shares_L46 rph rba n  300 z7) → ∀ (H : Heap) (locs : List Loc) (ls : Array Slot), va_P (dC, dI) vwCl (mW cI cZ h a rpt rph rgr rca rne rap rle rfu rba rru rti rtk rsv z8 z2 rth) H → va_D A (mW cI cZ h a rpt rph rgr rca rne rap rle rfu rba rru rti rtk rsv z8 z2 rth) → va_S A s.heap H locs → lv_has ls 2 [(0, .ref h)] → W p l e rmX1_shares s m args below meth c H locs 0 0 Q (F0 m 88 ls []) := by
          intro z8 hz8 H locs ls hP hD hS hl
          have hP9 := hP; have hD9 := hD
          subst hz1 hz2 hz7 hz8
          have hP8 : va_P (dC, dI) vwCl (mW cI cZ h a rpt rph rgr rca rne rap rle rfu rba rru rti rtk rsv ((X1_shares rph rgr rca rne rap rle rfu rba rru rti rgi rpa n).1) ((X1_shares rph rgr rca rne rap rle rfu rba rru rti rgi rpa n).2) rth) H := by rw [X1_shares, if_pos c32]; exact hP9
          have hD8 : va_D A (mW cI cZ h a rpt rph rgr rca rne rap rle rfu rba rru rti rtk rsv ((X1_shares rph rgr rca rne rap rle rfu rba rru rti rgi rpa n).1) ((X1_shares rph rgr rca rne rap rle rfu rba rru rti rgi rpa n).2) rth) := by rw [X1_shares, if_pos c32]; exact hD9
          exact hret H locs 88 ls hS hP8 hD8 dX1_shares_88
        have loop46 : ∀ (j : Nat) (vgi : AR), X1_shares_L46_T rph rba n  j vgi → X1_shares_L46 rph rba n  j vgi = (X1_shares_L46 rph rba n  300 z7) → ∀ (H : Heap) (locs : List Loc) (ls : Array Slot), va_P (dC, dI) vwCl (mW cI cZ h a rpt rph rgr rca rne rap rle rfu rba rru rti rtk rsv vgi z2 rth) H → va_D A (mW cI cZ h a rpt rph rgr rca rne rap rle rfu rba rru rti rtk rsv vgi z2 rth) → va_S A s.heap H locs → lv_has ls 2 [(0, .ref h)] → W p l e rmX1_shares s m args below meth c H locs 0 0 Q (F0 m 46 ls []) := by
          intro j
          induction j with
          | zero =>
            intro vgi hT hR  H locs ls hP hD hS hl
            exact absurd hT id
          | succ j ih =>
            intro vgi hT hR  H locs ls hP hD hS hl
            refine lv_aload_n hx hb dX1_shares_46 rfl (lv_at hl 0 rfl) ?_
            refine k_calli (rest := []) (q0 := 0) hC (c_X1_apart l dC dI cI cZ h a rpt rph rgr rca rne rap rle rfu rba rru rti rtk rsv vgi z2 rth n  hpc hn) (cwV 0 hts gX1_shares_X1_apart rfl rfl rfl hd_X1_apart ⟨Nat.le_of_ble_eq_true rfl, Nat.le_of_ble_eq_true rfl⟩) hK hP hD hS hA rfl rfl rfl hl.1 (Nat.le_of_ble_eq_true rfl) dX1_shares_47 rfl ⟨Nat.zero_le _, Nat.zero_le _⟩ (fun H locs hP hD hS => ?_)
            refine lv_aload_n hx hb dX1_shares_50 rfl (lv_at hl 0 rfl) ?_
            refine va_get (D := (dC, dI)) (ci := 1) (v := .int rba) (C := RX1) (T := TX1) (N := 16) hx hb hts hin hown hK hP 0 rfl rfl 8 (by decide) hw1 (fun _ h9 => h9) rfl dX1_shares_51 ?_
            refine lv_icmp_le (tgt := 88) hx hb dX1_shares_54 (by decide) (fun c54 => ?_) (fun c54 => ?_)
            · have hP9 := hP; have hD9 := hD; have hl9 := hl; have hR9 := hR
              subst hz1 hz2 hz7
              exact cont46 vgi (by rw [← hR9, X1_shares_L46, if_pos c54]) H locs ls hP9 hD9 hS (lv_sub hl9 [0] rfl)
            · refine lv_aload_n hx hb dX1_shares_57 rfl (lv_at hl 0 rfl) ?_
              refine lv_aload_n hx hb dX1_shares_58 rfl (lv_at hl 0 rfl) ?_
              refine k_calli (rest := [.ref h]) (q0 := 0) hC (c_X1_high l dC dI cI cZ h a rpt rph rgr rca rne rap rle rfu rba rru rti rtk rsv vgi z2 rth n  hpc hn) (cwV 0 hts gX1_shares_X1_high rfl rfl rfl hd_X1_high ⟨Nat.le_of_ble_eq_true rfl, Nat.le_of_ble_eq_true rfl⟩) hK hP hD hS hA rfl rfl rfl hl.1 (Nat.le_of_ble_eq_true rfl) dX1_shares_59 rfl ⟨Nat.zero_le _, Nat.zero_le _⟩ (fun H locs hP hD hS => ?_)
              refine k_calli (rest := []) (q0 := 0) hC (c_X1_giver l dC dI cI cZ h a rpt rph rgr rca rne rap rle rfu rba rru rti rtk rsv vgi z2 rth n (X1_high rph vgi n) hpc hn) (cwV 1 hts gX1_shares_X1_giver rfl rfl rfl hd_X1_giver ⟨Nat.le_of_ble_eq_true rfl, Nat.le_of_ble_eq_true rfl⟩) hK hP hD hS hA rfl rfl rfl hl.1 (Nat.le_of_ble_eq_true rfl) dX1_shares_62 rfl ⟨Nat.zero_le _, Nat.zero_le _⟩ (fun H locs hP hD hS => ?_)
              refine lv_if_lt (tgt := 88) hx hb dX1_shares_65 (by decide) (fun c65 => ?_) (fun c65 => ?_)
              · have hP9 := hP; have hD9 := hD; have hl9 := hl; have hR9 := hR
                subst hz1 hz2 hz7
                exact cont46 vgi (by rw [← hR9, X1_shares_L46, if_neg c54, if_pos c65]) H locs ls hP9 hD9 hS (lv_sub hl9 [0] rfl)
              · refine lv_aload_n hx hb dX1_shares_68 rfl (lv_at hl 0 rfl) ?_
                refine va_get (D := (dC, dI)) (ci := 1) (v := .ref (a 13)) (C := RX1) (T := TX1) (N := 16) hx hb hts hin hown hK hP 0 rfl rfl 13 (by decide) hw2 (fun _ h9 => h9) rfl dX1_shares_69 ?_
                refine lv_aload_n hx hb dX1_shares_72 rfl (lv_at hl 0 rfl) ?_
                refine lv_aload_n hx hb dX1_shares_73 rfl (lv_at hl 0 rfl) ?_
                refine k_calli (rest := [.ref h, .ref (a 13)]) (q0 := 0) hC (c_X1_high l dC dI cI cZ h a rpt rph rgr rca rne rap rle rfu rba rru rti rtk rsv vgi z2 rth n  hpc hn) (cwV 0 hts gX1_shares_X1_high rfl rfl rfl hd_X1_high ⟨Nat.le_of_ble_eq_true rfl, Nat.le_of_ble_eq_true rfl⟩) hK hP hD hS hA rfl rfl rfl hl.1 (Nat.le_of_ble_eq_true rfl) dX1_shares_74 rfl ⟨Nat.zero_le _, Nat.zero_le _⟩ (fun H locs hP hD hS => ?_)
                refine k_calli (rest := [.ref (a 13)]) (q0 := 0) hC (c_X1_giver l dC dI cI cZ h a rpt rph rgr rca rne rap rle rfu rba rru rti rtk rsv vgi z2 rth n (X1_high rph vgi n) hpc hn) (cwV 1 hts gX1_shares_X1_giver rfl rfl rfl hd_X1_giver ⟨Nat.le_of_ble_eq_true rfl, Nat.le_of_ble_eq_true rfl⟩) hK hP hD hS hA rfl rfl rfl hl.1 (Nat.le_of_ble_eq_true rfl) dX1_shares_77 rfl ⟨Nat.zero_le _, Nat.zero_le _⟩ (fun H locs hP hD hS => ?_)
                refine lv_dup2_11 hx hb dX1_shares_80 rfl rfl ?_
                refine va_iald (f := vgi) hx hb hK hP 8 0 rfl rfl (X1_giver_in _ _ n _ hn c65) dX1_shares_81 ?_
                refine lv_iconst (v := 1) hx hb dX1_shares_82 (by decide) ?_
                refine lv_isub hx hb dX1_shares_83 ?_
                refine va_iast (f := vgi) hx hb hK hP hD hS 8 0 rfl rfl (X1_giver_in _ _ n _ hn c65) dX1_shares_84 (fun H locs hP hD hS => ?_)
                obtain ⟨z9, hz9⟩ : ∃ z : AR, z = (upd vgi (X1_giver rph vgi n (X1_high rph vgi n)).toNatClampNeg ((vgi (X1_giver rph vgi n (X1_high rph vgi n)).toNatClampNeg) - 1)) := ⟨_, rfl⟩
                rw [← hz9] at hP hD
                have hP : va_P (dC, dI) vwCl (mW cI cZ h a rpt rph rgr rca rne rap rle rfu rba rru rti rtk rsv z9 z2 rth) H := hP
                have hD : va_D A (mW cI cZ h a rpt rph rgr rca rne rap rle rfu rba rru rti rtk rsv z9 z2 rth) := hD
                refine lv_goto (tgt := 46) hx hb dX1_shares_85 (by decide) ?_
                have hP9 := hP; have hD9 := hD; have hl9 := hl; have hR9 := hR; have ih9 := ih; have hT9 := hT
                subst hz1 hz2 hz7 hz9
                exact ih9 (upd vgi (X1_giver rph vgi n (X1_high rph vgi n)).toNatClampNeg ((vgi (X1_giver rph vgi n (X1_high rph vgi n)).toNatClampNeg) - 1)) (by rw [X1_shares_L46_T, if_neg c54, if_neg c65] at hT9; exact hT9) (by rw [← hR9, X1_shares_L46, if_neg c54, if_neg c65])  H locs ls hP9 hD9 hS (lv_sub hl9 [0] rfl)
        exact loop46 300 z7 (by subst hz1 hz2 hz7; exact hT2) rfl  H locs ls hP hD hS (lv_sub hl [0] rfl)
    have loop2 : ∀ (j k : Nat) (vgi : AR) (vpa : AR), k + j = 8 → X1_shares_L2 n  j k vgi vpa = (X1_shares_L2 n  8 0 rgi rpa) → ∀ (H : Heap) (locs : List Loc) (ls : Array Slot), va_P (dC, dI) vwCl (mW cI cZ h a rpt rph rgr rca rne rap rle rfu rba rru rti rtk rsv vgi vpa rth) H → va_D A (mW cI cZ h a rpt rph rgr rca rne rap rle rfu rba rru rti rtk rsv vgi vpa rth) → va_S A s.heap H locs → lv_has ls 2 [(0, .ref h), (1, .int (nI k))] → W p l e rmX1_shares s m args below meth c H locs 0 0 Q (F0 m 2 ls []) := by
      intro j
      induction j with
      | zero =>
        intro k vgi vpa hk hR  H locs ls hP hD hS hl
        refine lv_iload_n hx hb dX1_shares_2 rfl (lv_at hl 1 rfl) ?_
        refine lv_bipush (v := 8) hx hb dX1_shares_3 (by decide) ?_
        refine lv_icmp_ge (tgt := 28) hx hb dX1_shares_5 (by decide) (fun _ => ?_) (fun c => absurd (by rw [nIl8]; exact nI_le (by omega) (by omega)) c)
        exact cont2 vgi (by rw [← hR, X1_shares_L2]) vpa (by rw [← hR, X1_shares_L2]) H locs ls hP hD hS (lv_sub hl [0] rfl)
      | succ j ih =>
        intro k vgi vpa hk hR  H locs ls hP hD hS hl
        refine lv_iload_n hx hb dX1_shares_2 rfl (lv_at hl 1 rfl) ?_
        refine lv_bipush (v := 8) hx hb dX1_shares_3 (by decide) ?_
        refine lv_icmp_ge (tgt := 28) hx hb dX1_shares_5 (by decide) (fun c => absurd c (by rw [nIl8]; exact nI_ge (by omega) (by omega))) (fun _ => ?_)
        refine lv_aload_n hx hb dX1_shares_8 rfl (lv_at hl 0 rfl) ?_
        refine va_get (D := (dC, dI)) (ci := 1) (v := .ref (a 13)) (C := RX1) (T := TX1) (N := 16) hx hb hts hin hown hK hP 0 rfl rfl 13 (by decide) hw2 (fun _ h9 => h9) rfl dX1_shares_9 ?_
        refine lv_iload_n hx hb dX1_shares_12 rfl (lv_at hl 1 rfl) ?_
        refine lv_iconst (v := 0) hx hb dX1_shares_13 (by decide) ?_
        refine va_iast (f := vgi) hx hb hK hP hD hS 8 0 rfl rfl (vp_in_nI (by omega) (by decide)) dX1_shares_14 (fun H locs hP hD hS => ?_)
        obtain ⟨z10, hz10⟩ : ∃ z : AR, z = (upd vgi (nI k).toNatClampNeg 0) := ⟨_, rfl⟩
        rw [← hz10] at hP hD
        have hP : va_P (dC, dI) vwCl (mW cI cZ h a rpt rph rgr rca rne rap rle rfu rba rru rti rtk rsv z10 vpa rth) H := hP
        have hD : va_D A (mW cI cZ h a rpt rph rgr rca rne rap rle rfu rba rru rti rtk rsv z10 vpa rth) := hD
        refine lv_aload_n hx hb dX1_shares_15 rfl (lv_at hl 0 rfl) ?_
        refine va_get (D := (dC, dI)) (ci := 1) (v := .ref (a 14)) (C := RX1) (T := TX1) (N := 16) hx hb hts hin hown hK hP 0 rfl rfl 14 (by decide) hw3 (fun _ h9 => h9) rfl dX1_shares_16 ?_
        refine lv_iload_n hx hb dX1_shares_19 rfl (lv_at hl 1 rfl) ?_
        refine lv_iconst (v := 0) hx hb dX1_shares_20 (by decide) ?_
        refine va_zast (f := vpa) hx hb hK hP hD hS 9 1 rfl rfl (vp_in_nI (by omega) (by decide)) dX1_shares_21 (fun H locs hP hD hS => ?_)
        obtain ⟨z11, hz11⟩ : ∃ z : AR, z = (upd vpa (nI k).toNatClampNeg (vp_nar .boolean 0)) := ⟨_, rfl⟩
        rw [← hz11] at hP hD
        have hP : va_P (dC, dI) vwCl (mW cI cZ h a rpt rph rgr rca rne rap rle rfu rba rru rti rtk rsv z10 z11 rth) H := hP
        have hD : va_D A (mW cI cZ h a rpt rph rgr rca rne rap rle rfu rba rru rti rtk rsv z10 z11 rth) := hD
        refine lv_iinc (v := (nI (k + 1))) (lv' := [(1, .int (nI (k + 1))), (0, .ref h)]) hx hb dX1_shares_22 hl (k := 1) rfl (nI_1 k) (by decide) rfl (fun ls hl => ?_)
        refine lv_goto (tgt := 2) hx hb dX1_shares_25 (by decide) ?_
        have hP9 := hP; have hD9 := hD; have hl9 := hl; have hR9 := hR; have ih9 := ih
        subst hz10 hz11
        exact ih9 (k + 1) (upd vgi (nI k).toNatClampNeg 0) (upd vpa (nI k).toNatClampNeg (vp_nar .boolean 0)) (by omega) (by rw [← hR9, X1_shares_L2])  H locs ls hP9 hD9 hS (lv_sub hl9 [1, 0] rfl)
    exact loop2 8 0 rgi rpa (by omega) rfl  H locs ls hP hD hS (lv_sub hl [1, 0] rfl)
  exact hW _ _ hP hD hS
