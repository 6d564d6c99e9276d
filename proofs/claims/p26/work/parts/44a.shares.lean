theorem hd_L_shares : yL_shares.cls ≠ "java/lang/invoke/MethodHandle" ∧ yL_shares.cls ≠ "java/lang/invoke/VarHandle" ∧ (parseMethodDescriptor yL_shares.desc).map (fun d => d.parameters.length) = some 0 := by decide +kernel
abbrev rmL_shares : Room := { frames := 10, cells := 293, slots := 1778, locals := 208 }
set_option maxHeartbeats 4000000 in
set_option maxRecDepth 100000 in
theorem c_L_shares (l : Launch) (hl0 : l.stackTraces = false) (dC : Nat → ClassId) (dI : Nat → Nat → Nat) (cI cZ : ClassId) : Lk l yL_shares wsL_shares rmL_shares dC dI cI cZ [] [] 1 (fun _ => True) 293 1778 := by
  refine lk_enter (cc := cL_shares) (maxL := 1) (by decide) rfl (Nat.zero_le _) ?_
  intro p e s m args below meth c A ls Q hC hK hNs hZ hP hD hS hA hl hret
  obtain ⟨hx, hb, hml, hown, hts⟩ := id hC
  have hin : ∀ w ∈ wsX00, w ∈ wsL_shares := by decide +kernel
  have hl : lv_has ls 1 [] := hl
  refine va_new (ci := 0) (fs := [.null, .null, .null, .null, .null, .null, .int 0, .int 0, .int 0, .int 0, .int 0, .int 0, .null, .null, .null, .null]) (C := RX0) (T := TX0) (N := 16) hx hb hts hin tyX0 tyX0_ok hown (hts (.classLink RL 8 RX0) (by decide +kernel)) (hts (.instantiable RX0 16) (by decide +kernel)) (hts (.initialized RX0) (by decide +kernel)) hK hP hD hS hA rfl (fun j hj => by rcases (show j = 0 ∨ j = 1 ∨ j = 2 ∨ j = 3 ∨ j = 4 ∨ j = 5 ∨ j = 6 ∨ j = 7 ∨ j = 8 ∨ j = 9 ∨ j = 10 ∨ j = 11 ∨ j = 12 ∨ j = 13 ∨ j = 14 ∨ j = 15 by omega) with rfl | rfl | rfl | rfl | rfl | rfl | rfl | rfl | rfl | rfl | rfl | rfl | rfl | rfl | rfl | rfl <;> rfl) (Nat.le_of_ble_eq_true rfl) (Nat.le_of_ble_eq_true rfl) dL_shares_0 (fun h H hP hD hS => ?_)
  refine W.widen (k := 1) (n := 16) (Nat.le_of_ble_eq_true rfl) (Nat.le_of_ble_eq_true rfl) ?_
  have hP : va_P (dC, dI) vwCl [(h, .inr (0, [.null, .null, .null, .null, .null, .null, .int 0, .int 0, .int 0, .int 0, .int 0, .int 0, .null, .null, .null, .null]))] H := hP
  have hD : va_D A [(h, .inr (0, [.null, .null, .null, .null, .null, .null, .int 0, .int 0, .int 0, .int 0, .int 0, .int 0, .null, .null, .null, .null]))] := hD
  refine lv_dup hx hb dL_shares_3 rfl ?_
  have hF := k_free hD hS hA
  refine va_callv (va_runI (As := []) (rest := [.ref h]) hC (c_X0_init l dC dI cI cZ h H.size) (cwI 0 hts gL_shares_X0_init rfl rfl rfl (hts (.initialized RX0) (by decide +kernel)) (hts (.methodLink RL 92 yX0_init) (by decide +kernel)) (hts (.instanceMethod yX0_init) (by decide +kernel)) rfl (by decide +kernel) ⟨Nat.le_of_ble_eq_true rfl, Nat.le_of_ble_eq_true rfl⟩) ⟨kPre_blind, kPre_at hK hP hD⟩ rfl rfl hl.1 rfl (lv_room (Nat.le_of_ble_eq_true rfl)) dL_shares_4 ⟨Nat.le_of_ble_eq_true rfl, Nat.le_of_ble_eq_true rfl⟩) hS (fun q _ h => hF q h) hF (fun a t H1 locs ht hvm hw hB hz1 hk1 hS => ?_)
  obtain ⟨hP1, hD1⟩ := hB
  rw [ht] at hP1
  have hP : va_P (dC, dI) vwCl (xW cI cZ h a uZ uZ uZ uZ uZ uF0 0 100 0 0 0 0 uZ uZ uZ uZ) H1 := hP1
  have hD : va_D A (xW cI cZ h a uZ uZ uZ uZ uZ uF0 0 100 0 0 0 0 uZ uZ uZ uZ) := hD1.weaken (fun _ q _ h => hF _ h)
  obtain ⟨qwa, hqwa⟩ : ∃ x, x = uZ := ⟨_, rfl⟩
  obtain ⟨qgi, hqgi⟩ : ∃ x, x = uZ := ⟨_, rfl⟩
  obtain ⟨qlo, hqlo⟩ : ∃ x, x = uZ := ⟨_, rfl⟩
  obtain ⟨qtu, hqtu⟩ : ∃ x, x = uZ := ⟨_, rfl⟩
  have hP : va_P (dC, dI) vwCl (xW cI cZ h a uZ uZ uZ uZ uZ uF0 0 100 0 0 0 0 qwa qgi qlo qtu) H1 := by rw [hqwa, hqgi, hqlo, hqtu]; exact hP
  have hD : va_D A (xW cI cZ h a uZ uZ uZ uZ uZ uF0 0 100 0 0 0 0 qwa qgi qlo qtu) := by rw [hqwa, hqgi, hqlo, hqtu]; exact hD
  generalize H1 = H at hP hS ⊢
  refine W.widen (k := 11) (n := 86) (Nat.le_of_ble_eq_true rfl) (Nat.le_of_ble_eq_true rfl) ?_
  refine lv_astore_n (lv' := [(0, .ref h)]) hx hb dL_shares_7 rfl hl (by decide) rfl (fun ls hl => ?_)
  refine lv_aload_n hx hb dL_shares_8 rfl (lv_at hl 0 rfl) ?_
  refine lk_park (rest := []) (As := []) (v := 0) hC (c_X0_points l dC dI cI cZ h a uZ uZ uZ uZ uZ uF0 0 100 0 0 0 0 qwa qgi qlo qtu) us_e0 (cwV 0 hts gL_shares_X0_points rfl rfl rfl hd_X0_points ⟨Nat.le_of_ble_eq_true rfl, Nat.le_of_ble_eq_true rfl⟩) hK hP hD hS hA rfl rfl hl.1 (Nat.le_of_ble_eq_true rfl) dL_shares_9 rfl ⟨Nat.le_of_ble_eq_true rfl, Nat.le_of_ble_eq_true rfl⟩ (fun qwa qgi qlo qtu H locs hP hD hS => ?_)
  refine lv_if_ne (tgt := 212) hx hb dL_shares_12 (by decide) (fun c => absurd (by decide) c) (fun _ => ?_)
  refine lv_aload_n hx hb dL_shares_15 rfl (lv_at hl 0 rfl) ?_
  refine lk_park (rest := []) (As := []) (v := 0) hC (c_X0_held l dC dI cI cZ h a uZ uZ uZ uZ uZ uF0 0 100 0 0 0 0 qwa qgi qlo qtu 0 (by decide +kernel) (by decide)) (us_e2 _ _ _ _) (cwV 0 hts gL_shares_X0_held rfl rfl rfl hd_X0_held ⟨Nat.le_of_ble_eq_true rfl, Nat.le_of_ble_eq_true rfl⟩) hK hP hD hS hA rfl rfl hl.1 (Nat.le_of_ble_eq_true rfl) dL_shares_16 rfl ⟨Nat.le_of_ble_eq_true rfl, Nat.le_of_ble_eq_true rfl⟩ (fun qwa qgi qlo qtu H locs hP hD hS => ?_)
  refine lv_if_ne (tgt := 212) hx hb dL_shares_19 (by decide) (fun c => absurd (by decide) c) (fun _ => ?_)
  refine lv_aload_n hx hb dL_shares_22 rfl (lv_at hl 0 rfl) ?_
  refine lk_park (rest := []) (As := []) (v := 0) hC (c_X0_imbalance l dC dI cI cZ h a uZ uZ uZ uZ uZ uF0 0 100 0 0 0 0 qwa qgi qlo qtu 0 (by decide +kernel) (by decide)) (us_e3 _ _ _ _) (cwV 0 hts gL_shares_X0_imbalance rfl rfl rfl hd_X0_imbalance ⟨Nat.le_of_ble_eq_true rfl, Nat.le_of_ble_eq_true rfl⟩) hK hP hD hS hA rfl rfl hl.1 (Nat.le_of_ble_eq_true rfl) dL_shares_23 rfl ⟨Nat.le_of_ble_eq_true rfl, Nat.le_of_ble_eq_true rfl⟩ (fun qwa qgi qlo qtu H locs hP hD hS => ?_)
  refine lv_if_ne (tgt := 212) hx hb dL_shares_26 (by decide) (fun c => absurd (by decide) c) (fun _ => ?_)
  refine lv_aload_n hx hb dL_shares_29 rfl (lv_at hl 0 rfl) ?_
  refine lk_park (rest := []) (As := []) (v := 1) hC (c_X0_canBeReady l dC dI cI cZ h a uZ uZ uZ uZ uZ uF0 0 100 0 0 0 0 qwa qgi qlo qtu 0 (by decide +kernel) (by decide)) us_e4 (cwV 0 hts gL_shares_X0_canBeReady rfl rfl rfl hd_X0_canBeReady ⟨Nat.le_of_ble_eq_true rfl, Nat.le_of_ble_eq_true rfl⟩) hK hP hD hS hA rfl rfl hl.1 (Nat.le_of_ble_eq_true rfl) dL_shares_30 rfl ⟨Nat.le_of_ble_eq_true rfl, Nat.le_of_ble_eq_true rfl⟩ (fun qwa qgi qlo qtu H locs hP hD hS => ?_)
  refine lv_if_eq (tgt := 212) hx hb dL_shares_33 (by decide) (fun c => absurd c (by decide)) (fun _ => ?_)
  refine lv_aload_n hx hb dL_shares_36 rfl (lv_at hl 0 rfl) ?_
  refine lv_iconst (v := 1) hx hb dL_shares_37 (by decide) ?_
  refine lk_park (rest := []) (As := [.int 1]) (v := (-1)) hC (c_X0_fairLevel l dC dI cI cZ h a uZ uZ uZ uZ uZ uF0 0 100 0 0 0 0 qwa qgi qlo qtu 0 1 (by decide +kernel) (by decide) us_e5) (us_e6 _ _ _ _) (cwV 1 hts gL_shares_X0_fairLevel rfl rfl rfl hd_X0_fairLevel ⟨Nat.le_of_ble_eq_true rfl, Nat.le_of_ble_eq_true rfl⟩) hK hP hD hS hA rfl rfl hl.1 (Nat.le_of_ble_eq_true rfl) dL_shares_38 rfl ⟨Nat.le_of_ble_eq_true rfl, Nat.le_of_ble_eq_true rfl⟩ (fun qwa qgi qlo qtu H locs hP hD hS => ?_)
  refine lv_iconst (v := (-1)) hx hb dL_shares_41 (by decide) ?_
  refine lv_icmp_ne (tgt := 212) hx hb dL_shares_42 (by decide) (fun c => absurd (by decide) c) (fun _ => ?_)
  refine lv_aload_n hx hb dL_shares_45 rfl (lv_at hl 0 rfl) ?_
  refine lv_bipush (v := 50) hx hb dL_shares_46 (by decide) ?_
  refine lk_park (rest := []) (As := [.int 50]) (v := 0) hC (c_X0_step l dC dI cI cZ h a uZ uZ uZ uZ uZ uF0 0 100 0 0 0 0 qwa qgi qlo qtu 0 50 (by decide +kernel) (by decide) us_e7) (us_e8 _ _ _ _) (cwV 1 hts gL_shares_X0_step rfl rfl rfl hd_X0_step ⟨Nat.le_of_ble_eq_true rfl, Nat.le_of_ble_eq_true rfl⟩) hK hP hD hS hA rfl rfl hl.1 (Nat.le_of_ble_eq_true rfl) dL_shares_48 rfl ⟨Nat.le_of_ble_eq_true rfl, Nat.le_of_ble_eq_true rfl⟩ (fun qwa qgi qlo qtu H locs hP hD hS => ?_)
  rw [us_e10, us_e11, us_e12] at hP hD
  refine lv_if_ne (tgt := 212) hx hb dL_shares_51 (by decide) (fun c => absurd (by decide) c) (fun _ => ?_)
  refine lv_aload_n hx hb dL_shares_54 rfl (lv_at hl 0 rfl) ?_
  refine lk_park (rest := []) (As := []) (v := 50) hC (c_X0_time l dC dI cI cZ h a uZ uZ uZ uZ uZ uF0 0 100 0 50 0 0 qwa qgi qlo qtu) us_e13 (cwV 0 hts gL_shares_X0_time rfl rfl rfl hd_X0_time ⟨Nat.le_of_ble_eq_true rfl, Nat.le_of_ble_eq_true rfl⟩) hK hP hD hS hA rfl rfl hl.1 (Nat.le_of_ble_eq_true rfl) dL_shares_55 rfl ⟨Nat.le_of_ble_eq_true rfl, Nat.le_of_ble_eq_true rfl⟩ (fun qwa qgi qlo qtu H locs hP hD hS => ?_)
  refine lv_bipush (v := 50) hx hb dL_shares_58 (by decide) ?_
  refine lv_icmp_ne (tgt := 212) hx hb dL_shares_60 (by decide) (fun c => absurd (by decide) c) (fun _ => ?_)
  refine lv_aload_n hx hb dL_shares_63 rfl (lv_at hl 0 rfl) ?_
  refine lv_iconst (v := 5) hx hb dL_shares_64 (by decide) ?_
  refine lv_iconst (v := 0) hx hb dL_shares_65 (by decide) ?_
  refine lv_iconst (v := 0) hx hb dL_shares_66 (by decide) ?_
  refine lv_iconst (v := 0) hx hb dL_shares_67 (by decide) ?_
  refine lv_iconst (v := 0) hx hb dL_shares_68 (by decide) ?_
  refine lk_callH (rest := []) (As := [.ref h, .int 5, .int 0, .int 0, .int 0, .int 0]) hC (a_takeOut_1 l hl0 dC dI cI cZ h a uZ uZ uZ uZ uZ uF0 0 100 0 50 0 0 qwa qgi qlo qtu 0 0 0 0 0 (by decide +kernel) (by decide) us_e14) (vx_cwSW 6 hts gL_shares_L_act rfl rfl rfl hd_L_act ⟨Nat.le_of_ble_eq_true rfl, Nat.le_of_ble_eq_true rfl⟩) hK hNs hZ hP hD hS hA rfl hl.1 (Nat.le_of_ble_eq_true rfl) dL_shares_69 rfl ⟨Nat.le_of_ble_eq_true rfl, Nat.le_of_ble_eq_true rfl⟩ (fun w2 H locs hB hP hD hS => ?_)
  subst hB
  refine lv_ldc (v := (-70011)) hx hb hown (hts (.constant RL 62 (-70011)) (by decide +kernel)) dL_shares_72 ?_
  refine lv_icmp_ne (tgt := 212) hx hb dL_shares_74 (by decide) (fun c => absurd (by decide) c) (fun _ => ?_)
  refine lv_aload_n hx hb dL_shares_77 rfl (lv_at hl 0 rfl) ?_
  refine lv_iconst (v := 0) hx hb dL_shares_78 (by decide) ?_
  refine lv_bipush (v := 16) hx hb dL_shares_79 (by decide) ?_
  refine lk_park (rest := []) (As := [.int 0, .int 16]) (v := 0) hC (c_X0_point l dC dI cI cZ h a uZ uZ uZ uZ uZ uF0 0 100 0 50 0 0 qwa qgi qlo qtu 0 0 16 (by decide +kernel) (by decide) us_e15) us_e16 (cwV 2 hts gL_shares_X0_point rfl rfl rfl hd_X0_point ⟨Nat.le_of_ble_eq_true rfl, Nat.le_of_ble_eq_true rfl⟩) hK hP hD hS hA rfl rfl hl.1 (Nat.le_of_ble_eq_true rfl) dL_shares_81 rfl ⟨Nat.le_of_ble_eq_true rfl, Nat.le_of_ble_eq_true rfl⟩ (fun qwa qgi qlo qtu H locs hP hD hS => ?_)
  rw [us_e17, us_e18, us_e19, us_e20] at hP hD
  refine lv_if_ne (tgt := 212) hx hb dL_shares_84 (by decide) (fun c => absurd (by decide) c) (fun _ => ?_)
  refine lv_aload_n hx hb dL_shares_87 rfl (lv_at hl 0 rfl) ?_
  refine lv_iconst (v := 0) hx hb dL_shares_88 (by decide) ?_
  refine lv_bipush (v := 32) hx hb dL_shares_89 (by decide) ?_
  refine lk_park (rest := []) (As := [.int 0, .int 32]) (v := 1) hC (c_X0_point l dC dI cI cZ h a us_a0 us_a1 us_a2 uZ uZ uF0 1 100 0 50 0 0 qwa qgi qlo qtu 1 0 32 (by decide +kernel) (by decide) us_e21) us_e22 (cwV 2 hts gL_shares_X0_point rfl rfl rfl hd_X0_point ⟨Nat.le_of_ble_eq_true rfl, Nat.le_of_ble_eq_true rfl⟩) hK hP hD hS hA rfl rfl hl.1 (Nat.le_of_ble_eq_true rfl) dL_shares_91 rfl ⟨Nat.le_of_ble_eq_true rfl, Nat.le_of_ble_eq_true rfl⟩ (fun qwa qgi qlo qtu H locs hP hD hS => ?_)
  rw [us_e23, us_e24, us_e25, us_e26] at hP hD
  refine lv_iconst (v := 1) hx hb dL_shares_94 (by decide) ?_
  refine lv_icmp_ne (tgt := 212) hx hb dL_shares_95 (by decide) (fun c => absurd (by decide) c) (fun _ => ?_)
  refine lv_aload_n hx hb dL_shares_98 rfl (lv_at hl 0 rfl) ?_
  refine lv_iconst (v := 1) hx hb dL_shares_99 (by decide) ?_
  refine lv_bipush (v := 32) hx hb dL_shares_100 (by decide) ?_
  refine lk_park (rest := []) (As := [.int 1, .int 32]) (v := 2) hC (c_X0_point l dC dI cI cZ h a us_a3 us_a4 us_a5 uZ uZ uF0 2 100 0 50 0 0 qwa qgi qlo qtu 2 1 32 (by decide +kernel) (by decide) us_e27) us_e28 (cwV 2 hts gL_shares_X0_point rfl rfl rfl hd_X0_point ⟨Nat.le_of_ble_eq_true rfl, Nat.le_of_ble_eq_true rfl⟩) hK hP hD hS hA rfl rfl hl.1 (Nat.le_of_ble_eq_true rfl) dL_shares_102 rfl ⟨Nat.le_of_ble_eq_true rfl, Nat.le_of_ble_eq_true rfl⟩ (fun qwa qgi qlo qtu H locs hP hD hS => ?_)
  rw [us_e29, us_e30, us_e31, us_e32] at hP hD
  refine lv_iconst (v := 2) hx hb dL_shares_105 (by decide) ?_
  refine lv_icmp_ne (tgt := 212) hx hb dL_shares_106 (by decide) (fun c => absurd (by decide) c) (fun _ => ?_)
  refine lv_aload_n hx hb dL_shares_109 rfl (lv_at hl 0 rfl) ?_
  refine lv_iconst (v := 3) hx hb dL_shares_110 (by decide) ?_
  refine lv_bipush (v := 20) hx hb dL_shares_111 (by decide) ?_
  refine lk_park (rest := []) (As := [.int 3, .int 20]) (v := 3) hC (c_X0_point l dC dI cI cZ h a us_a6 us_a7 us_a8 uZ uZ uF0 3 100 0 50 0 0 qwa qgi qlo qtu 3 3 20 (by decide +kernel) (by decide) us_e33) us_e34 (cwV 2 hts gL_shares_X0_point rfl rfl rfl hd_X0_point ⟨Nat.le_of_ble_eq_true rfl, Nat.le_of_ble_eq_true rfl⟩) hK hP hD hS hA rfl rfl hl.1 (Nat.le_of_ble_eq_true rfl) dL_shares_113 rfl ⟨Nat.le_of_ble_eq_true rfl, Nat.le_of_ble_eq_true rfl⟩ (fun qwa qgi qlo qtu H locs hP hD hS => ?_)
  rw [us_e35, us_e36, us_e37, us_e38] at hP hD
  refine lv_iconst (v := 3) hx hb dL_shares_116 (by decide) ?_
  refine lv_icmp_ne (tgt := 212) hx hb dL_shares_117 (by decide) (fun c => absurd (by decide) c) (fun _ => ?_)
  refine lv_aload_n hx hb dL_shares_120 rfl (lv_at hl 0 rfl) ?_
  refine lv_iconst (v := 0) hx hb dL_shares_121 (by decide) ?_
  refine lk_park (rest := []) (As := [.int 0]) (v := (-1)) hC (c_X0_need l dC dI cI cZ h a us_a9 us_a10 us_a11 uZ uZ uF0 4 100 0 50 0 0 qwa qgi qlo qtu 4 0 (by decide +kernel) (by decide) us_e39) us_e40 (cwV 1 hts gL_shares_X0_need rfl rfl rfl hd_X0_need ⟨Nat.le_of_ble_eq_true rfl, Nat.le_of_ble_eq_true rfl⟩) hK hP hD hS hA rfl rfl hl.1 (Nat.le_of_ble_eq_true rfl) dL_shares_122 rfl ⟨Nat.le_of_ble_eq_true rfl, Nat.le_of_ble_eq_true rfl⟩ (fun qwa qgi qlo qtu H locs hP hD hS => ?_)
  refine lv_iconst (v := (-1)) hx hb dL_shares_125 (by decide) ?_
  refine lv_icmp_ne (tgt := 212) hx hb dL_shares_126 (by decide) (fun c => absurd (by decide) c) (fun _ => ?_)
  refine lv_aload_n hx hb dL_shares_129 rfl (lv_at hl 0 rfl) ?_
  refine lv_iconst (v := 0) hx hb dL_shares_130 (by decide) ?_
  refine lk_park (rest := []) (As := [.int 0]) (v := (-1)) hC (c_X0_left l dC dI cI cZ h a us_a9 us_a10 us_a11 uZ uZ uF0 4 100 0 50 0 0 qwa qgi qlo qtu 4 0 (by decide +kernel) (by decide) us_e41) us_e42 (cwV 1 hts gL_shares_X0_left rfl rfl rfl hd_X0_left ⟨Nat.le_of_ble_eq_true rfl, Nat.le_of_ble_eq_true rfl⟩) hK hP hD hS hA rfl rfl hl.1 (Nat.le_of_ble_eq_true rfl) dL_shares_131 rfl ⟨Nat.le_of_ble_eq_true rfl, Nat.le_of_ble_eq_true rfl⟩ (fun qwa qgi qlo qtu H locs hP hD hS => ?_)
  refine lv_iconst (v := (-1)) hx hb dL_shares_134 (by decide) ?_
  refine lv_icmp_ne (tgt := 212) hx hb dL_shares_135 (by decide) (fun c => absurd (by decide) c) (fun _ => ?_)
  refine lv_aload_n hx hb dL_shares_138 rfl (lv_at hl 0 rfl) ?_
  refine lv_iconst (v := 0) hx hb dL_shares_139 (by decide) ?_
  refine lk_park (rest := []) (As := [.int 0]) (v := 0) hC (c_X0_reach l dC dI cI cZ h a us_a9 us_a10 us_a11 uZ uZ uF0 4 100 0 50 0 0 qwa qgi qlo qtu 4 0 (by decide +kernel) (by decide) us_e43) us_e44 (cwV 1 hts gL_shares_X0_reach rfl rfl rfl hd_X0_reach ⟨Nat.le_of_ble_eq_true rfl, Nat.le_of_ble_eq_true rfl⟩) hK hP hD hS hA rfl rfl hl.1 (Nat.le_of_ble_eq_true rfl) dL_shares_140 rfl ⟨Nat.le_of_ble_eq_true rfl, Nat.le_of_ble_eq_true rfl⟩ (fun qwa qgi qlo qtu H locs hP hD hS => ?_)
  refine lv_if_ne (tgt := 212) hx hb dL_shares_143 (by decide) (fun c => absurd (by decide) c) (fun _ => ?_)
  refine lv_aload_n hx hb dL_shares_146 rfl (lv_at hl 0 rfl) ?_
  refine lv_bipush (v := 11) hx hb dL_shares_147 (by decide) ?_
  refine lv_iconst (v := 0) hx hb dL_shares_149 (by decide) ?_
  refine lv_iconst (v := 0) hx hb dL_shares_150 (by decide) ?_
  refine lv_iconst (v := 0) hx hb dL_shares_151 (by decide) ?_
  refine lv_iconst (v := 0) hx hb dL_shares_152 (by decide) ?_
  refine lk_callH (rest := []) (As := [.ref h, .int 11, .int 0, .int 0, .int 0, .int 0]) hC (a_laxity_2 l hl0 dC dI cI cZ h a us_a9 us_a10 us_a11 uZ uZ uF0 4 100 0 50 0 0 qwa qgi qlo qtu 4 0 0 0 0 (by decide +kernel) (by decide) us_e45) (vx_cwSW 6 hts gL_shares_L_act rfl rfl rfl hd_L_act ⟨Nat.le_of_ble_eq_true rfl, Nat.le_of_ble_eq_true rfl⟩) hK hNs hZ hP hD hS hA rfl hl.1 (Nat.le_of_ble_eq_true rfl) dL_shares_153 rfl ⟨Nat.le_of_ble_eq_true rfl, Nat.le_of_ble_eq_true rfl⟩ (fun w2 H locs hB hP hD hS => ?_)
  subst hB
  refine lv_ldc (v := (-70013)) hx hb hown (hts (.constant RL 68 (-70013)) (by decide +kernel)) dL_shares_156 ?_
  refine lv_icmp_ne (tgt := 212) hx hb dL_shares_158 (by decide) (fun c => absurd (by decide) c) (fun _ => ?_)
  refine lv_aload_n hx hb dL_shares_161 rfl (lv_at hl 0 rfl) ?_
  refine lv_iconst (v := 5) hx hb dL_shares_162 (by decide) ?_
  refine lv_iconst (v := 0) hx hb dL_shares_163 (by decide) ?_
  refine lv_iconst (v := 0) hx hb dL_shares_164 (by decide) ?_
  refine lv_iconst (v := 0) hx hb dL_shares_165 (by decide) ?_
  refine lv_iconst (v := 0) hx hb dL_shares_166 (by decide) ?_
  refine lk_callH (rest := []) (As := [.ref h, .int 5, .int 0, .int 0, .int 0, .int 0]) hC (a_takeOut_2 l hl0 dC dI cI cZ h a us_a9 us_a10 us_a11 uZ uZ uF0 4 100 0 50 0 0 qwa qgi qlo qtu 4 0 0 0 0 (by decide +kernel) (by decide) us_e46) (vx_cwSW 6 hts gL_shares_L_act rfl rfl rfl hd_L_act ⟨Nat.le_of_ble_eq_true rfl, Nat.le_of_ble_eq_true rfl⟩) hK hNs hZ hP hD hS hA rfl hl.1 (Nat.le_of_ble_eq_true rfl) dL_shares_167 rfl ⟨Nat.le_of_ble_eq_true rfl, Nat.le_of_ble_eq_true rfl⟩ (fun w2 H locs hB hP hD hS => ?_)
  subst hB
  refine lv_ldc (v := (-70013)) hx hb hown (hts (.constant RL 68 (-70013)) (by decide +kernel)) dL_shares_170 ?_
  refine lv_icmp_ne (tgt := 212) hx hb dL_shares_172 (by decide) (fun c => absurd (by decide) c) (fun _ => ?_)
  refine lv_aload_n hx hb dL_shares_175 rfl (lv_at hl 0 rfl) ?_
  refine lv_bipush (v := 6) hx hb dL_shares_176 (by decide) ?_
  refine lv_iconst (v := 0) hx hb dL_shares_178 (by decide) ?_
  refine lv_iconst (v := 5) hx hb dL_shares_179 (by decide) ?_
  refine lv_iconst (v := 0) hx hb dL_shares_180 (by decide) ?_
  refine lv_iconst (v := 0) hx hb dL_shares_181 (by decide) ?_
  refine lk_callH (rest := []) (As := [.ref h, .int 6, .int 0, .int 5, .int 0, .int 0]) hC (a_appetite_3 l hl0 dC dI cI cZ h a us_a9 us_a10 us_a11 uZ uZ uF0 4 100 0 50 0 0 qwa qgi qlo qtu 4 0 5 0 0 (by decide +kernel) (by decide) us_e47) (vx_cwSW 6 hts gL_shares_L_act rfl rfl rfl hd_L_act ⟨Nat.le_of_ble_eq_true rfl, Nat.le_of_ble_eq_true rfl⟩) hK hNs hZ hP hD hS hA rfl hl.1 (Nat.le_of_ble_eq_true rfl) dL_shares_182 rfl ⟨Nat.le_of_ble_eq_true rfl, Nat.le_of_ble_eq_true rfl⟩ (fun w2 H locs hB hP hD hS => ?_)
  subst hB
  refine lv_ldc (v := (-70013)) hx hb hown (hts (.constant RL 68 (-70013)) (by decide +kernel)) dL_shares_185 ?_
  refine lv_icmp_ne (tgt := 212) hx hb dL_shares_187 (by decide) (fun c => absurd (by decide) c) (fun _ => ?_)
  refine lv_aload_n hx hb dL_shares_190 rfl (lv_at hl 0 rfl) ?_
  refine lv_bipush (v := 7) hx hb dL_shares_191 (by decide) ?_
  refine lv_iconst (v := 0) hx hb dL_shares_193 (by decide) ?_
  refine lv_iconst (v := 5) hx hb dL_shares_194 (by decide) ?_
  refine lv_iconst (v := 0) hx hb dL_shares_195 (by decide) ?_
  refine lv_iconst (v := 0) hx hb dL_shares_196 (by decide) ?_
  refine lk_callH (rest := []) (As := [.ref h, .int 7, .int 0, .int 5, .int 0, .int 0]) hC (a_stay_3 l hl0 dC dI cI cZ h a us_a9 us_a10 us_a11 uZ uZ uF0 4 100 0 50 0 0 qwa qgi qlo qtu 4 0 5 0 0 (by decide +kernel) (by decide) us_e48) (vx_cwSW 6 hts gL_shares_L_act rfl rfl rfl hd_L_act ⟨Nat.le_of_ble_eq_true rfl, Nat.le_of_ble_eq_true rfl⟩) hK hNs hZ hP hD hS hA rfl hl.1 (Nat.le_of_ble_eq_true rfl) dL_shares_197 rfl ⟨Nat.le_of_ble_eq_true rfl, Nat.le_of_ble_eq_true rfl⟩ (fun w2 H locs hB hP hD hS => ?_)
  subst hB
  refine lv_ldc (v := (-70013)) hx hb hown (hts (.constant RL 68 (-70013)) (by decide +kernel)) dL_shares_200 ?_
  refine lv_icmp_ne (tgt := 212) hx hb dL_shares_202 (by decide) (fun c => absurd (by decide) c) (fun _ => ?_)
  refine lv_aload_n hx hb dL_shares_205 rfl (lv_at hl 0 rfl) ?_
  refine lk_call (rest := []) (As := [.ref h]) hC (c_L_refuses l hl0 dC dI cI cZ h a us_a9 us_a10 us_a11 uZ uZ uF0 4 100 0 50 0 0 qwa qgi qlo qtu 4 (by decide +kernel) (by decide) (by decide) _ (fun wa gi lo tu => ob_held (by decide) us_e49 wa gi lo tu uZ uZ uZ uZ)) (va_cwS 1 hts gL_shares_L_refuses rfl rfl rfl hd_L_refuses ⟨Nat.le_of_ble_eq_true rfl, Nat.le_of_ble_eq_true rfl⟩) hK hNs hZ hP hD hS hA rfl hl.1 (Nat.le_of_ble_eq_true rfl) dL_shares_206 rfl ⟨Nat.le_of_ble_eq_true rfl, Nat.le_of_ble_eq_true rfl⟩ (fun w2 H locs hB hP hD hS => ?_)
  obtain ⟨qwa, qgi, qlo, qtu, rfl⟩ := hB
  refine lv_if_ne (tgt := 214) hx hb dL_shares_209 (by decide) (fun _ => ?_) (fun c => absurd c (by decide))
  refine lv_aload_n hx hb dL_shares_214 rfl (lv_at hl 0 rfl) ?_
  refine lv_iconst (v := 0) hx hb dL_shares_215 (by decide) ?_
  refine lv_bipush (v := 100) hx hb dL_shares_216 (by decide) ?_
  refine lv_bipush (v := 32) hx hb dL_shares_218 (by decide) ?_
  refine lv_bipush (v := 10) hx hb dL_shares_220 (by decide) ?_
  refine lk_park (rest := []) (As := [.int 0, .int 100, .int 32, .int 10]) (v := 3) hC (c_X0_plugIn l dC dI cI cZ h a us_a9 us_a10 us_a11 uZ uZ uF0 4 100 0 50 0 0 qwa qgi qlo qtu 4 0 100 32 10 (by decide +kernel) (by decide) us_e50) us_e51 (cwV 4 hts gL_shares_X0_plugIn rfl rfl rfl hd_X0_plugIn ⟨Nat.le_of_ble_eq_true rfl, Nat.le_of_ble_eq_true rfl⟩) hK hP hD hS hA rfl rfl hl.1 (Nat.le_of_ble_eq_true rfl) dL_shares_222 rfl ⟨Nat.le_of_ble_eq_true rfl, Nat.le_of_ble_eq_true rfl⟩ (fun qwa qgi qlo qtu H locs hP hD hS => ?_)
  rw [us_e52, us_e53, us_e54] at hP hD
  refine lv_iconst (v := 3) hx hb dL_shares_225 (by decide) ?_
  refine lv_icmp_ne (tgt := 405) hx hb dL_shares_226 (by decide) (fun c => absurd (by decide) c) (fun _ => ?_)
  refine lv_aload_n hx hb dL_shares_229 rfl (lv_at hl 0 rfl) ?_
  refine lv_iconst (v := 1) hx hb dL_shares_230 (by decide) ?_
  refine lv_bipush (v := 20) hx hb dL_shares_231 (by decide) ?_
  refine lv_bipush (v := 10) hx hb dL_shares_233 (by decide) ?_
  refine lv_iconst (v := 5) hx hb dL_shares_235 (by decide) ?_
  refine lk_park (rest := []) (As := [.int 1, .int 20, .int 10, .int 5]) (v := 3) hC (c_X0_plugIn l dC dI cI cZ h a us_a9 us_a10 us_a12 us_a13 us_a14 uF0 4 100 0 50 0 0 qwa qgi qlo qtu 4 1 20 10 5 (by decide +kernel) (by decide) us_e55) us_e56 (cwV 4 hts gL_shares_X0_plugIn rfl rfl rfl hd_X0_plugIn ⟨Nat.le_of_ble_eq_true rfl, Nat.le_of_ble_eq_true rfl⟩) hK hP hD hS hA rfl rfl hl.1 (Nat.le_of_ble_eq_true rfl) dL_shares_236 rfl ⟨Nat.le_of_ble_eq_true rfl, Nat.le_of_ble_eq_true rfl⟩ (fun qwa qgi qlo qtu H locs hP hD hS => ?_)
  rw [us_e57, us_e58, us_e59] at hP hD
  refine lv_iconst (v := 3) hx hb dL_shares_239 (by decide) ?_
  refine lv_icmp_ne (tgt := 405) hx hb dL_shares_240 (by decide) (fun c => absurd (by decide) c) (fun _ => ?_)
  refine lv_aload_n hx hb dL_shares_243 rfl (lv_at hl 0 rfl) ?_
  refine lv_iconst (v := 2) hx hb dL_shares_244 (by decide) ?_
  refine lv_sipush (v := 300) hx hb dL_shares_245 (by decide) ?_
  refine lv_bipush (v := 32) hx hb dL_shares_248 (by decide) ?_
  refine lv_bipush (v := 9) hx hb dL_shares_250 (by decide) ?_
  refine lk_park (rest := []) (As := [.int 2, .int 300, .int 32, .int 9]) (v := (-1)) hC (c_X0_plugIn l dC dI cI cZ h a us_a9 us_a10 us_a15 us_a16 us_a17 uF0 4 100 0 50 0 0 qwa qgi qlo qtu 4 2 300 32 9 (by decide +kernel) (by decide) us_e60) us_e61 (cwV 4 hts gL_shares_X0_plugIn rfl rfl rfl hd_X0_plugIn ⟨Nat.le_of_ble_eq_true rfl, Nat.le_of_ble_eq_true rfl⟩) hK hP hD hS hA rfl rfl hl.1 (Nat.le_of_ble_eq_true rfl) dL_shares_252 rfl ⟨Nat.le_of_ble_eq_true rfl, Nat.le_of_ble_eq_true rfl⟩ (fun qwa qgi qlo qtu H locs hP hD hS => ?_)
  rw [us_e62, us_e63, us_e64] at hP hD
  refine lv_iconst (v := (-1)) hx hb dL_shares_255 (by decide) ?_
  refine lv_icmp_ne (tgt := 405) hx hb dL_shares_256 (by decide) (fun c => absurd (by decide) c) (fun _ => ?_)
  refine lv_aload_n hx hb dL_shares_259 rfl (lv_at hl 0 rfl) ?_
  refine lv_iconst (v := 3) hx hb dL_shares_260 (by decide) ?_
  refine lv_bipush (v := 90) hx hb dL_shares_261 (by decide) ?_
  refine lv_bipush (v := 32) hx hb dL_shares_263 (by decide) ?_
  refine lv_iconst (v := 4) hx hb dL_shares_265 (by decide) ?_
  refine lk_park (rest := []) (As := [.int 3, .int 90, .int 32, .int 4]) (v := 2) hC (c_X0_plugIn l dC dI cI cZ h a us_a9 us_a10 us_a18 us_a19 us_a20 uF0 4 100 0 50 0 0 qwa qgi qlo qtu 4 3 90 32 4 (by decide +kernel) (by decide) us_e65) us_e66 (cwV 4 hts gL_shares_X0_plugIn rfl rfl rfl hd_X0_plugIn ⟨Nat.le_of_ble_eq_true rfl, Nat.le_of_ble_eq_true rfl⟩) hK hP hD hS hA rfl rfl hl.1 (Nat.le_of_ble_eq_true rfl) dL_shares_266 rfl ⟨Nat.le_of_ble_eq_true rfl, Nat.le_of_ble_eq_true rfl⟩ (fun qwa qgi qlo qtu H locs hP hD hS => ?_)
  rw [us_e67, us_e68, us_e69] at hP hD
  refine lv_iconst (v := 2) hx hb dL_shares_269 (by decide) ?_
  refine lv_icmp_ne (tgt := 405) hx hb dL_shares_270 (by decide) (fun c => absurd (by decide) c) (fun _ => ?_)
  refine lv_aload_n hx hb dL_shares_273 rfl (lv_at hl 0 rfl) ?_
  refine lv_iconst (v := 4) hx hb dL_shares_274 (by decide) ?_
  refine lv_iconst (v := 3) hx hb dL_shares_275 (by decide) ?_
  refine lv_iconst (v := 5) hx hb dL_shares_276 (by decide) ?_
  refine lv_iconst (v := 5) hx hb dL_shares_277 (by decide) ?_
  refine lv_iconst (v := 5) hx hb dL_shares_278 (by decide) ?_
  refine lk_callH (rest := []) (As := [.ref h, .int 4, .int 3, .int 5, .int 5, .int 5]) hC (a_plugIn_3 l hl0 dC dI cI cZ h a us_a9 us_a10 us_a21 us_a22 us_a23 uF0 4 100 0 50 0 0 qwa qgi qlo qtu 4 3 5 5 5 (by decide +kernel) (by decide) us_e70) (vx_cwSW 6 hts gL_shares_L_act rfl rfl rfl hd_L_act ⟨Nat.le_of_ble_eq_true rfl, Nat.le_of_ble_eq_true rfl⟩) hK hNs hZ hP hD hS hA rfl hl.1 (Nat.le_of_ble_eq_true rfl) dL_shares_279 rfl ⟨Nat.le_of_ble_eq_true rfl, Nat.le_of_ble_eq_true rfl⟩ (fun w2 H locs hB hP hD hS => ?_)
  subst hB
  refine lv_ldc (v := (-70013)) hx hb hown (hts (.constant RL 68 (-70013)) (by decide +kernel)) dL_shares_282 ?_
  refine lv_icmp_ne (tgt := 405) hx hb dL_shares_284 (by decide) (fun c => absurd (by decide) c) (fun _ => ?_)
  refine lv_aload_n hx hb dL_shares_287 rfl (lv_at hl 0 rfl) ?_
  refine lv_iconst (v := 0) hx hb dL_shares_288 (by decide) ?_
  refine lk_park (rest := []) (As := [.int 0]) (v := 16) hC (c_X0_reach l dC dI cI cZ h a us_a9 us_a10 us_a21 us_a22 us_a23 uF0 4 100 0 50 0 0 qwa qgi qlo qtu 4 0 (by decide +kernel) (by decide) us_e71) us_e72 (cwV 1 hts gL_shares_X0_reach rfl rfl rfl hd_X0_reach ⟨Nat.le_of_ble_eq_true rfl, Nat.le_of_ble_eq_true rfl⟩) hK hP hD hS hA rfl rfl hl.1 (Nat.le_of_ble_eq_true rfl) dL_shares_289 rfl ⟨Nat.le_of_ble_eq_true rfl, Nat.le_of_ble_eq_true rfl⟩ (fun qwa qgi qlo qtu H locs hP hD hS => ?_)
  refine lv_bipush (v := 16) hx hb dL_shares_292 (by decide) ?_
  refine lv_icmp_ne (tgt := 405) hx hb dL_shares_294 (by decide) (fun c => absurd (by decide) c) (fun _ => ?_)
  refine lv_aload_n hx hb dL_shares_297 rfl (lv_at hl 0 rfl) ?_
  refine lv_iconst (v := 1) hx hb dL_shares_298 (by decide) ?_
  refine lk_park (rest := []) (As := [.int 1]) (v := 10) hC (c_X0_reach l dC dI cI cZ h a us_a9 us_a10 us_a21 us_a22 us_a23 uF0 4 100 0 50 0 0 qwa qgi qlo qtu 4 1 (by decide +kernel) (by decide) us_e73) us_e74 (cwV 1 hts gL_shares_X0_reach rfl rfl rfl hd_X0_reach ⟨Nat.le_of_ble_eq_true rfl, Nat.le_of_ble_eq_true rfl⟩) hK hP hD hS hA rfl rfl hl.1 (Nat.le_of_ble_eq_true rfl) dL_shares_299 rfl ⟨Nat.le_of_ble_eq_true rfl, Nat.le_of_ble_eq_true rfl⟩ (fun qwa qgi qlo qtu H locs hP hD hS => ?_)
  refine lv_bipush (v := 10) hx hb dL_shares_302 (by decide) ?_
  refine lv_icmp_ne (tgt := 405) hx hb dL_shares_304 (by decide) (fun c => absurd (by decide) c) (fun _ => ?_)
  refine lv_aload_n hx hb dL_shares_307 rfl (lv_at hl 0 rfl) ?_
  refine lv_iconst (v := 2) hx hb dL_shares_308 (by decide) ?_
  refine lk_park (rest := []) (As := [.int 2]) (v := 32) hC (c_X0_reach l dC dI cI cZ h a us_a9 us_a10 us_a21 us_a22 us_a23 uF0 4 100 0 50 0 0 qwa qgi qlo qtu 4 2 (by decide +kernel) (by decide) us_e75) us_e76 (cwV 1 hts gL_shares_X0_reach rfl rfl rfl hd_X0_reach ⟨Nat.le_of_ble_eq_true rfl, Nat.le_of_ble_eq_true rfl⟩) hK hP hD hS hA rfl rfl hl.1 (Nat.le_of_ble_eq_true rfl) dL_shares_309 rfl ⟨Nat.le_of_ble_eq_true rfl, Nat.le_of_ble_eq_true rfl⟩ (fun qwa qgi qlo qtu H locs hP hD hS => ?_)
  refine lv_bipush (v := 32) hx hb dL_shares_312 (by decide) ?_
  refine lv_icmp_ne (tgt := 405) hx hb dL_shares_314 (by decide) (fun c => absurd (by decide) c) (fun _ => ?_)
  refine lv_aload_n hx hb dL_shares_317 rfl (lv_at hl 0 rfl) ?_
  refine lv_iconst (v := 3) hx hb dL_shares_318 (by decide) ?_
  refine lk_park (rest := []) (As := [.int 3]) (v := 20) hC (c_X0_reach l dC dI cI cZ h a us_a9 us_a10 us_a21 us_a22 us_a23 uF0 4 100 0 50 0 0 qwa qgi qlo qtu 4 3 (by decide +kernel) (by decide) us_e77) us_e78 (cwV 1 hts gL_shares_X0_reach rfl rfl rfl hd_X0_reach ⟨Nat.le_of_ble_eq_true rfl, Nat.le_of_ble_eq_true rfl⟩) hK hP hD hS hA rfl rfl hl.1 (Nat.le_of_ble_eq_true rfl) dL_shares_319 rfl ⟨Nat.le_of_ble_eq_true rfl, Nat.le_of_ble_eq_true rfl⟩ (fun qwa qgi qlo qtu H locs hP hD hS => ?_)
  refine lv_bipush (v := 20) hx hb dL_shares_322 (by decide) ?_
  refine lv_icmp_ne (tgt := 405) hx hb dL_shares_324 (by decide) (fun c => absurd (by decide) c) (fun _ => ?_)
  refine lv_aload_n hx hb dL_shares_327 rfl (lv_at hl 0 rfl) ?_
  refine lk_park (rest := []) (As := []) (v := 0) hC (c_X0_canBeReady l dC dI cI cZ h a us_a9 us_a10 us_a21 us_a22 us_a23 uF0 4 100 0 50 0 0 qwa qgi qlo qtu 4 (by decide +kernel) (by decide)) us_e79 (cwV 0 hts gL_shares_X0_canBeReady rfl rfl rfl hd_X0_canBeReady ⟨Nat.le_of_ble_eq_true rfl, Nat.le_of_ble_eq_true rfl⟩) hK hP hD hS hA rfl rfl hl.1 (Nat.le_of_ble_eq_true rfl) dL_shares_328 rfl ⟨Nat.le_of_ble_eq_true rfl, Nat.le_of_ble_eq_true rfl⟩ (fun qwa qgi qlo qtu H locs hP hD hS => ?_)
  refine lv_if_ne (tgt := 405) hx hb dL_shares_331 (by decide) (fun c => absurd (by decide) c) (fun _ => ?_)
  refine lv_aload_n hx hb dL_shares_334 rfl (lv_at hl 0 rfl) ?_
  refine lv_bipush (v := 16) hx hb dL_shares_335 (by decide) ?_
  refine lv_bipush (v := 10) hx hb dL_shares_337 (by decide) ?_
  refine lv_bipush (v := 32) hx hb dL_shares_339 (by decide) ?_
  refine lv_iconst (v := 0) hx hb dL_shares_341 (by decide) ?_
  refine lk_call (rest := []) (As := [.ref h, .int 16, .int 10, .int 32, .int 0]) hC (c_L_gives l dC dI cI cZ h a us_a9 us_a10 us_a21 us_a22 us_a23 uF0 4 100 0 50 0 0 qwa qgi qlo qtu 4 16 10 32 0 (by decide +kernel) (by decide) us_e80 us_e82 us_e83 us_e84 us_e85 us_e86 us_e87 us_e88) (va_cwS 5 hts gL_shares_L_gives rfl rfl rfl hd_L_gives ⟨Nat.le_of_ble_eq_true rfl, Nat.le_of_ble_eq_true rfl⟩) hK hNs hZ hP hD hS hA rfl hl.1 (Nat.le_of_ble_eq_true rfl) dL_shares_342 rfl ⟨Nat.le_of_ble_eq_true rfl, Nat.le_of_ble_eq_true rfl⟩ (fun w2 H locs hB hP hD hS => ?_)
  obtain ⟨qwa, qgi, qlo, qtu, rfl⟩ := hB
  refine lv_if_eq (tgt := 405) hx hb dL_shares_345 (by decide) (fun c => absurd c (by decide)) (fun _ => ?_)
  refine lv_aload_n hx hb dL_shares_348 rfl (lv_at hl 0 rfl) ?_
  refine lv_bipush (v := 26) hx hb dL_shares_349 (by decide) ?_
  refine lv_bipush (v := 32) hx hb dL_shares_351 (by decide) ?_
  refine lv_iconst (v := 0) hx hb dL_shares_353 (by decide) ?_
  refine lv_bipush (v := 32) hx hb dL_shares_354 (by decide) ?_
  refine lk_call (rest := []) (As := [.ref h, .int 26, .int 32, .int 0, .int 32]) hC (c_L_loads l dC dI cI cZ h a us_a9 us_a10 us_a21 us_a22 us_a23 uF0 4 100 0 50 0 0 qwa qgi qlo qtu 4 26 32 0 32 (by decide +kernel) (by decide) us_e89 us_e90 us_e91 us_e92 us_e93 us_e94 us_e95) (va_cwS 5 hts gL_shares_L_loads rfl rfl rfl hd_L_loads ⟨Nat.le_of_ble_eq_true rfl, Nat.le_of_ble_eq_true rfl⟩) hK hNs hZ hP hD hS hA rfl hl.1 (Nat.le_of_ble_eq_true rfl) dL_shares_356 rfl ⟨Nat.le_of_ble_eq_true rfl, Nat.le_of_ble_eq_true rfl⟩ (fun w2 H locs hB hP hD hS => ?_)
  obtain ⟨qwa, qgi, qlo, qtu, rfl⟩ := hB
  refine lv_if_eq (tgt := 405) hx hb dL_shares_359 (by decide) (fun c => absurd c (by decide)) (fun _ => ?_)
  refine lv_aload_n hx hb dL_shares_362 rfl (lv_at hl 0 rfl) ?_
  refine lk_park (rest := []) (As := []) (v := 8) hC (c_X0_held l dC dI cI cZ h a us_a9 us_a10 us_a21 us_a22 us_a23 uF0 4 100 0 50 0 0 qwa qgi qlo qtu 4 (by decide +kernel) (by decide)) (us_e96 _ _ _ _) (cwV 0 hts gL_shares_X0_held rfl rfl rfl hd_X0_held ⟨Nat.le_of_ble_eq_true rfl, Nat.le_of_ble_eq_true rfl⟩) hK hP hD hS hA rfl rfl hl.1 (Nat.le_of_ble_eq_true rfl) dL_shares_363 rfl ⟨Nat.le_of_ble_eq_true rfl, Nat.le_of_ble_eq_true rfl⟩ (fun qwa qgi qlo qtu H locs hP hD hS => ?_)
  refine lv_bipush (v := 8) hx hb dL_shares_366 (by decide) ?_
  refine lv_icmp_ne (tgt := 405) hx hb dL_shares_368 (by decide) (fun c => absurd (by decide) c) (fun _ => ?_)
  refine lv_aload_n hx hb dL_shares_371 rfl (lv_at hl 0 rfl) ?_
  refine lv_iconst (v := 0) hx hb dL_shares_372 (by decide) ?_
  refine lk_park (rest := []) (As := [.int 0]) (v := (-1)) hC (c_X0_fairLevel l dC dI cI cZ h a us_a9 us_a10 us_a21 us_a22 us_a23 uF0 4 100 0 50 0 0 qwa qgi qlo qtu 4 0 (by decide +kernel) (by decide) us_e97) (us_e98 _ _ _ _) (cwV 1 hts gL_shares_X0_fairLevel rfl rfl rfl hd_X0_fairLevel ⟨Nat.le_of_ble_eq_true rfl, Nat.le_of_ble_eq_true rfl⟩) hK hP hD hS hA rfl rfl hl.1 (Nat.le_of_ble_eq_true rfl) dL_shares_373 rfl ⟨Nat.le_of_ble_eq_true rfl, Nat.le_of_ble_eq_true rfl⟩ (fun qwa qgi qlo qtu H locs hP hD hS => ?_)
  refine lv_iconst (v := (-1)) hx hb dL_shares_376 (by decide) ?_
  refine lv_icmp_ne (tgt := 405) hx hb dL_shares_377 (by decide) (fun c => absurd (by decide) c) (fun _ => ?_)
  refine lv_aload_n hx hb dL_shares_380 rfl (lv_at hl 0 rfl) ?_
  refine lv_iconst (v := 1) hx hb dL_shares_381 (by decide) ?_
  refine lk_park (rest := []) (As := [.int 1]) (v := (-1)) hC (c_X0_fairLevel l dC dI cI cZ h a us_a9 us_a10 us_a21 us_a22 us_a23 uF0 4 100 0 50 0 0 qwa qgi qlo qtu 4 1 (by decide +kernel) (by decide) us_e99) (us_e100 _ _ _ _) (cwV 1 hts gL_shares_X0_fairLevel rfl rfl rfl hd_X0_fairLevel ⟨Nat.le_of_ble_eq_true rfl, Nat.le_of_ble_eq_true rfl⟩) hK hP hD hS hA rfl rfl hl.1 (Nat.le_of_ble_eq_true rfl) dL_shares_382 rfl ⟨Nat.le_of_ble_eq_true rfl, Nat.le_of_ble_eq_true rfl⟩ (fun qwa qgi qlo qtu H locs hP hD hS => ?_)
  refine lv_iconst (v := (-1)) hx hb dL_shares_385 (by decide) ?_
  refine lv_icmp_ne (tgt := 405) hx hb dL_shares_386 (by decide) (fun c => absurd (by decide) c) (fun _ => ?_)
  refine lv_aload_n hx hb dL_shares_389 rfl (lv_at hl 0 rfl) ?_
  refine lv_iconst (v := 2) hx hb dL_shares_390 (by decide) ?_
  refine lk_park (rest := []) (As := [.int 2]) (v := (-1)) hC (c_X0_fairLevel l dC dI cI cZ h a us_a9 us_a10 us_a21 us_a22 us_a23 uF0 4 100 0 50 0 0 qwa qgi qlo qtu 4 2 (by decide +kernel) (by decide) us_e101) (us_e102 _ _ _ _) (cwV 1 hts gL_shares_X0_fairLevel rfl rfl rfl hd_X0_fairLevel ⟨Nat.le_of_ble_eq_true rfl, Nat.le_of_ble_eq_true rfl⟩) hK hP hD hS hA rfl rfl hl.1 (Nat.le_of_ble_eq_true rfl) dL_shares_391 rfl ⟨Nat.le_of_ble_eq_true rfl, Nat.le_of_ble_eq_true rfl⟩ (fun qwa qgi qlo qtu H locs hP hD hS => ?_)
  refine lv_iconst (v := (-1)) hx hb dL_shares_394 (by decide) ?_
  refine lv_icmp_ne (tgt := 405) hx hb dL_shares_395 (by decide) (fun c => absurd (by decide) c) (fun _ => ?_)
  refine lv_aload_n hx hb dL_shares_398 rfl (lv_at hl 0 rfl) ?_
  refine lk_call (rest := []) (As := [.ref h]) hC (c_L_refuses l hl0 dC dI cI cZ h a us_a9 us_a10 us_a21 us_a22 us_a23 uF0 4 100 0 50 0 0 qwa qgi qlo qtu 4 (by decide +kernel) (by decide) (by decide) _ (fun wa gi lo tu => ob_held (by decide) us_e81 wa gi lo tu uZ uZ uZ uZ)) (va_cwS 1 hts gL_shares_L_refuses rfl rfl rfl hd_L_refuses ⟨Nat.le_of_ble_eq_true rfl, Nat.le_of_ble_eq_true rfl⟩) hK hNs hZ hP hD hS hA rfl hl.1 (Nat.le_of_ble_eq_true rfl) dL_shares_399 rfl ⟨Nat.le_of_ble_eq_true rfl, Nat.le_of_ble_eq_true rfl⟩ (fun w2 H locs hB hP hD hS => ?_)
  obtain ⟨qwa, qgi, qlo, qtu, rfl⟩ := hB
  refine lv_if_ne (tgt := 407) hx hb dL_shares_402 (by decide) (fun _ => ?_) (fun c => absurd c (by decide))
  refine lv_aload_n hx hb dL_shares_407 rfl (lv_at hl 0 rfl) ?_
  refine lv_iconst (v := 1) hx hb dL_shares_408 (by decide) ?_
  refine lk_park (rest := []) (As := [.int 1]) (v := 0) hC (c_X0_rule l dC dI cI cZ h a us_a9 us_a10 us_a21 us_a22 us_a23 uF0 4 100 0 50 0 0 qwa qgi qlo qtu 1 us_e103) us_e104 (cwV 1 hts gL_shares_X0_rule rfl rfl rfl hd_X0_rule ⟨Nat.le_of_ble_eq_true rfl, Nat.le_of_ble_eq_true rfl⟩) hK hP hD hS hA rfl rfl hl.1 (Nat.le_of_ble_eq_true rfl) dL_shares_409 rfl ⟨Nat.le_of_ble_eq_true rfl, Nat.le_of_ble_eq_true rfl⟩ (fun qwa qgi qlo qtu H locs hP hD hS => ?_)
  rw [us_e105] at hP hD
  refine lv_if_ne (tgt := 667) hx hb dL_shares_412 (by decide) (fun c => absurd (by decide) c) (fun _ => ?_)
  refine lv_aload_n hx hb dL_shares_415 rfl (lv_at hl 0 rfl) ?_
  refine lv_bipush (v := 11) hx hb dL_shares_416 (by decide) ?_
  refine lv_bipush (v := 10) hx hb dL_shares_418 (by decide) ?_
  refine lv_bipush (v := 21) hx hb dL_shares_420 (by decide) ?_
  refine lv_bipush (v := 11) hx hb dL_shares_422 (by decide) ?_
  refine lk_call (rest := []) (As := [.ref h, .int 11, .int 10, .int 21, .int 11]) hC (c_L_gives l dC dI cI cZ h a us_a9 us_a10 us_a21 us_a22 us_a23 uF0 4 100 1 50 0 0 qwa qgi qlo qtu 4 11 10 21 11 (by decide +kernel) (by decide) us_e106 us_e108 us_e109 us_e110 us_e111 us_e112 us_e113 us_e114) (va_cwS 5 hts gL_shares_L_gives rfl rfl rfl hd_L_gives ⟨Nat.le_of_ble_eq_true rfl, Nat.le_of_ble_eq_true rfl⟩) hK hNs hZ hP hD hS hA rfl hl.1 (Nat.le_of_ble_eq_true rfl) dL_shares_424 rfl ⟨Nat.le_of_ble_eq_true rfl, Nat.le_of_ble_eq_true rfl⟩ (fun w2 H locs hB hP hD hS => ?_)
  obtain ⟨qwa, qgi, qlo, qtu, rfl⟩ := hB
  refine lv_if_eq (tgt := 667) hx hb dL_shares_427 (by decide) (fun c => absurd c (by decide)) (fun _ => ?_)
  refine lv_aload_n hx hb dL_shares_430 rfl (lv_at hl 0 rfl) ?_
  refine lv_bipush (v := 32) hx hb dL_shares_431 (by decide) ?_
  refine lv_bipush (v := 32) hx hb dL_shares_433 (by decide) ?_
  refine lv_bipush (v := 11) hx hb dL_shares_435 (by decide) ?_
  refine lv_bipush (v := 21) hx hb dL_shares_437 (by decide) ?_
  refine lk_call (rest := []) (As := [.ref h, .int 32, .int 32, .int 11, .int 21]) hC (c_L_loads l dC dI cI cZ h a us_a9 us_a10 us_a21 us_a22 us_a23 uF0 4 100 1 50 0 0 qwa qgi qlo qtu 4 32 32 11 21 (by decide +kernel) (by decide) us_e115 us_e116 us_e117 us_e118 us_e119 us_e120 us_e121) (va_cwS 5 hts gL_shares_L_loads rfl rfl rfl hd_L_loads ⟨Nat.le_of_ble_eq_true rfl, Nat.le_of_ble_eq_true rfl⟩) hK hNs hZ hP hD hS hA rfl hl.1 (Nat.le_of_ble_eq_true rfl) dL_shares_439 rfl ⟨Nat.le_of_ble_eq_true rfl, Nat.le_of_ble_eq_true rfl⟩ (fun w2 H locs hB hP hD hS => ?_)
  obtain ⟨qwa, qgi, qlo, qtu, rfl⟩ := hB
  refine lv_if_eq (tgt := 667) hx hb dL_shares_442 (by decide) (fun c => absurd c (by decide)) (fun _ => ?_)
  refine lv_aload_n hx hb dL_shares_445 rfl (lv_at hl 0 rfl) ?_
  refine lk_park (rest := []) (As := []) (v := 13) hC (c_X0_held l dC dI cI cZ h a us_a9 us_a10 us_a21 us_a22 us_a23 uF0 4 100 1 50 0 0 qwa qgi qlo qtu 4 (by decide +kernel) (by decide)) (us_e122 _ _ _ _) (cwV 0 hts gL_shares_X0_held rfl rfl rfl hd_X0_held ⟨Nat.le_of_ble_eq_true rfl, Nat.le_of_ble_eq_true rfl⟩) hK hP hD hS hA rfl rfl hl.1 (Nat.le_of_ble_eq_true rfl) dL_shares_446 rfl ⟨Nat.le_of_ble_eq_true rfl, Nat.le_of_ble_eq_true rfl⟩ (fun qwa qgi qlo qtu H locs hP hD hS => ?_)
  refine lv_bipush (v := 13) hx hb dL_shares_449 (by decide) ?_
  refine lv_icmp_ne (tgt := 667) hx hb dL_shares_451 (by decide) (fun c => absurd (by decide) c) (fun _ => ?_)
  refine lv_aload_n hx hb dL_shares_454 rfl (lv_at hl 0 rfl) ?_
  refine lv_iconst (v := 0) hx hb dL_shares_455 (by decide) ?_
  refine lk_park (rest := []) (As := [.int 0]) (v := 11000) hC (c_X0_fairLevel l dC dI cI cZ h a us_a9 us_a10 us_a21 us_a22 us_a23 uF0 4 100 1 50 0 0 qwa qgi qlo qtu 4 0 (by decide +kernel) (by decide) us_e123) (us_e124 _ _ _ _) (cwV 1 hts gL_shares_X0_fairLevel rfl rfl rfl hd_X0_fairLevel ⟨Nat.le_of_ble_eq_true rfl, Nat.le_of_ble_eq_true rfl⟩) hK hP hD hS hA rfl rfl hl.1 (Nat.le_of_ble_eq_true rfl) dL_shares_456 rfl ⟨Nat.le_of_ble_eq_true rfl, Nat.le_of_ble_eq_true rfl⟩ (fun qwa qgi qlo qtu H locs hP hD hS => ?_)
  refine lv_sipush (v := 11000) hx hb dL_shares_459 (by decide) ?_
  refine lv_icmp_ne (tgt := 667) hx hb dL_shares_462 (by decide) (fun c => absurd (by decide) c) (fun _ => ?_)
  refine lv_aload_n hx hb dL_shares_465 rfl (lv_at hl 0 rfl) ?_
  refine lv_iconst (v := 1) hx hb dL_shares_466 (by decide) ?_
  refine lk_park (rest := []) (As := [.int 1]) (v := 21000) hC (c_X0_fairLevel l dC dI cI cZ h a us_a9 us_a10 us_a21 us_a22 us_a23 uF0 4 100 1 50 0 0 qwa qgi qlo qtu 4 1 (by decide +kernel) (by decide) us_e125) (us_e126 _ _ _ _) (cwV 1 hts gL_shares_X0_fairLevel rfl rfl rfl hd_X0_fairLevel ⟨Nat.le_of_ble_eq_true rfl, Nat.le_of_ble_eq_true rfl⟩) hK hP hD hS hA rfl rfl hl.1 (Nat.le_of_ble_eq_true rfl) dL_shares_467 rfl ⟨Nat.le_of_ble_eq_true rfl, Nat.le_of_ble_eq_true rfl⟩ (fun qwa qgi qlo qtu H locs hP hD hS => ?_)
  refine lv_sipush (v := 21000) hx hb dL_shares_470 (by decide) ?_
  refine lv_icmp_ne (tgt := 667) hx hb dL_shares_473 (by decide) (fun c => absurd (by decide) c) (fun _ => ?_)
  refine lv_aload_n hx hb dL_shares_476 rfl (lv_at hl 0 rfl) ?_
  refine lv_bipush (v := 10) hx hb dL_shares_477 (by decide) ?_
  refine lk_park (rest := []) (As := [.int 10]) (v := 100) hC (c_X0_balance l dC dI cI cZ h a us_a9 us_a10 us_a21 us_a22 us_a23 uF0 4 100 1 50 0 0 qwa qgi qlo qtu 10 us_e127) us_e128 (cwV 1 hts gL_shares_X0_balance rfl rfl rfl hd_X0_balance ⟨Nat.le_of_ble_eq_true rfl, Nat.le_of_ble_eq_true rfl⟩) hK hP hD hS hA rfl rfl hl.1 (Nat.le_of_ble_eq_true rfl) dL_shares_479 rfl ⟨Nat.le_of_ble_eq_true rfl, Nat.le_of_ble_eq_true rfl⟩ (fun qwa qgi qlo qtu H locs hP hD hS => ?_)
  rw [us_e129] at hP hD
  refine lv_bipush (v := 100) hx hb dL_shares_482 (by decide) ?_
  refine lv_icmp_ne (tgt := 667) hx hb dL_shares_484 (by decide) (fun c => absurd (by decide) c) (fun _ => ?_)
  refine lv_aload_n hx hb dL_shares_487 rfl (lv_at hl 0 rfl) ?_
  refine lv_iconst (v := 5) hx hb dL_shares_488 (by decide) ?_
  refine lv_iconst (v := 5) hx hb dL_shares_489 (by decide) ?_
  refine lv_bipush (v := 10) hx hb dL_shares_490 (by decide) ?_
  refine lv_bipush (v := 11) hx hb dL_shares_492 (by decide) ?_
  refine lk_call (rest := []) (As := [.ref h, .int 5, .int 5, .int 10, .int 11]) hC (c_L_gives l dC dI cI cZ h a us_a9 us_a10 us_a21 us_a22 us_a23 uF0 4 10 1 50 0 0 qwa qgi qlo qtu 4 5 5 10 11 (by decide +kernel) (by decide) us_e130 us_e132 us_e133 us_e134 us_e135 us_e136 us_e137 us_e138) (va_cwS 5 hts gL_shares_L_gives rfl rfl rfl hd_L_gives ⟨Nat.le_of_ble_eq_true rfl, Nat.le_of_ble_eq_true rfl⟩) hK hNs hZ hP hD hS hA rfl hl.1 (Nat.le_of_ble_eq_true rfl) dL_shares_494 rfl ⟨Nat.le_of_ble_eq_true rfl, Nat.le_of_ble_eq_true rfl⟩ (fun w2 H locs hB hP hD hS => ?_)
  obtain ⟨qwa, qgi, qlo, qtu, rfl⟩ := hB
  refine lv_if_eq (tgt := 667) hx hb dL_shares_497 (by decide) (fun c => absurd c (by decide)) (fun _ => ?_)
  refine lv_aload_n hx hb dL_shares_500 rfl (lv_at hl 0 rfl) ?_
  refine lv_bipush (v := 21) hx hb dL_shares_501 (by decide) ?_
  refine lv_bipush (v := 21) hx hb dL_shares_503 (by decide) ?_
  refine lv_bipush (v := 11) hx hb dL_shares_505 (by decide) ?_
  refine lv_bipush (v := 10) hx hb dL_shares_507 (by decide) ?_
  refine lk_call (rest := []) (As := [.ref h, .int 21, .int 21, .int 11, .int 10]) hC (c_L_loads l dC dI cI cZ h a us_a9 us_a10 us_a21 us_a22 us_a23 uF0 4 10 1 50 0 0 qwa qgi qlo qtu 4 21 21 11 10 (by decide +kernel) (by decide) us_e139 us_e140 us_e141 us_e142 us_e143 us_e144 us_e145) (va_cwS 5 hts gL_shares_L_loads rfl rfl rfl hd_L_loads ⟨Nat.le_of_ble_eq_true rfl, Nat.le_of_ble_eq_true rfl⟩) hK hNs hZ hP hD hS hA rfl hl.1 (Nat.le_of_ble_eq_true rfl) dL_shares_509 rfl ⟨Nat.le_of_ble_eq_true rfl, Nat.le_of_ble_eq_true rfl⟩ (fun w2 H locs hB hP hD hS => ?_)
  obtain ⟨qwa, qgi, qlo, qtu, rfl⟩ := hB
  refine lv_if_eq (tgt := 667) hx hb dL_shares_512 (by decide) (fun c => absurd c (by decide)) (fun _ => ?_)
  refine lv_aload_n hx hb dL_shares_515 rfl (lv_at hl 0 rfl) ?_
  refine lk_park (rest := []) (As := []) (v := 15) hC (c_X0_held l dC dI cI cZ h a us_a9 us_a10 us_a21 us_a22 us_a23 uF0 4 10 1 50 0 0 qwa qgi qlo qtu 4 (by decide +kernel) (by decide)) (us_e146 _ _ _ _) (cwV 0 hts gL_shares_X0_held rfl rfl rfl hd_X0_held ⟨Nat.le_of_ble_eq_true rfl, Nat.le_of_ble_eq_true rfl⟩) hK hP hD hS hA rfl rfl hl.1 (Nat.le_of_ble_eq_true rfl) dL_shares_516 rfl ⟨Nat.le_of_ble_eq_true rfl, Nat.le_of_ble_eq_true rfl⟩ (fun qwa qgi qlo qtu H locs hP hD hS => ?_)
  refine lv_bipush (v := 15) hx hb dL_shares_519 (by decide) ?_
  refine lv_icmp_ne (tgt := 667) hx hb dL_shares_521 (by decide) (fun c => absurd (by decide) c) (fun _ => ?_)
  refine lv_aload_n hx hb dL_shares_524 rfl (lv_at hl 0 rfl) ?_
  refine lv_iconst (v := 0) hx hb dL_shares_525 (by decide) ?_
  refine lk_park (rest := []) (As := [.int 0]) (v := 11000) hC (c_X0_fairLevel l dC dI cI cZ h a us_a9 us_a10 us_a21 us_a22 us_a23 uF0 4 10 1 50 0 0 qwa qgi qlo qtu 4 0 (by decide +kernel) (by decide) us_e147) (us_e148 _ _ _ _) (cwV 1 hts gL_shares_X0_fairLevel rfl rfl rfl hd_X0_fairLevel ⟨Nat.le_of_ble_eq_true rfl, Nat.le_of_ble_eq_true rfl⟩) hK hP hD hS hA rfl rfl hl.1 (Nat.le_of_ble_eq_true rfl) dL_shares_526 rfl ⟨Nat.le_of_ble_eq_true rfl, Nat.le_of_ble_eq_true rfl⟩ (fun qwa qgi qlo qtu H locs hP hD hS => ?_)
  refine lv_sipush (v := 11000) hx hb dL_shares_529 (by decide) ?_
  refine lv_icmp_ne (tgt := 667) hx hb dL_shares_532 (by decide) (fun c => absurd (by decide) c) (fun _ => ?_)
  refine lv_aload_n hx hb dL_shares_535 rfl (lv_at hl 0 rfl) ?_
  refine lv_iconst (v := 0) hx hb dL_shares_536 (by decide) ?_
  refine lk_park (rest := []) (As := [.int 0]) (v := 10) hC (c_X0_balance l dC dI cI cZ h a us_a9 us_a10 us_a21 us_a22 us_a23 uF0 4 10 1 50 0 0 qwa qgi qlo qtu 0 us_e149) us_e150 (cwV 1 hts gL_shares_X0_balance rfl rfl rfl hd_X0_balance ⟨Nat.le_of_ble_eq_true rfl, Nat.le_of_ble_eq_true rfl⟩) hK hP hD hS hA rfl rfl hl.1 (Nat.le_of_ble_eq_true rfl) dL_shares_537 rfl ⟨Nat.le_of_ble_eq_true rfl, Nat.le_of_ble_eq_true rfl⟩ (fun qwa qgi qlo qtu H locs hP hD hS => ?_)
  rw [us_e151] at hP hD
  refine lv_bipush (v := 10) hx hb dL_shares_540 (by decide) ?_
  refine lv_icmp_ne (tgt := 667) hx hb dL_shares_542 (by decide) (fun c => absurd (by decide) c) (fun _ => ?_)
  refine lv_aload_n hx hb dL_shares_545 rfl (lv_at hl 0 rfl) ?_
  refine lv_iconst (v := 0) hx hb dL_shares_546 (by decide) ?_
  refine lv_iconst (v := 0) hx hb dL_shares_547 (by decide) ?_
  refine lv_iconst (v := 0) hx hb dL_shares_548 (by decide) ?_
  refine lv_bipush (v := 11) hx hb dL_shares_549 (by decide) ?_
  refine lk_call (rest := []) (As := [.ref h, .int 0, .int 0, .int 0, .int 11]) hC (c_L_gives l dC dI cI cZ h a us_a9 us_a10 us_a21 us_a22 us_a23 uF0 4 0 1 50 0 0 qwa qgi qlo qtu 4 0 0 0 11 (by decide +kernel) (by decide) us_e152 us_e154 us_e155 us_e156 us_e157 us_e158 us_e159 us_e160) (va_cwS 5 hts gL_shares_L_gives rfl rfl rfl hd_L_gives ⟨Nat.le_of_ble_eq_true rfl, Nat.le_of_ble_eq_true rfl⟩) hK hNs hZ hP hD hS hA rfl hl.1 (Nat.le_of_ble_eq_true rfl) dL_shares_551 rfl ⟨Nat.le_of_ble_eq_true rfl, Nat.le_of_ble_eq_true rfl⟩ (fun w2 H locs hB hP hD hS => ?_)
  obtain ⟨qwa, qgi, qlo, qtu, rfl⟩ := hB
  refine lv_if_eq (tgt := 667) hx hb dL_shares_554 (by decide) (fun c => absurd c (by decide)) (fun _ => ?_)
  refine lv_aload_n hx hb dL_shares_557 rfl (lv_at hl 0 rfl) ?_
  refine lv_bipush (v := 11) hx hb dL_shares_558 (by decide) ?_
  refine lv_bipush (v := 11) hx hb dL_shares_560 (by decide) ?_
  refine lv_bipush (v := 11) hx hb dL_shares_562 (by decide) ?_
  refine lv_iconst (v := 0) hx hb dL_shares_564 (by decide) ?_
  refine lk_call (rest := []) (As := [.ref h, .int 11, .int 11, .int 11, .int 0]) hC (c_L_loads l dC dI cI cZ h a us_a9 us_a10 us_a21 us_a22 us_a23 uF0 4 0 1 50 0 0 qwa qgi qlo qtu 4 11 11 11 0 (by decide +kernel) (by decide) us_e161 us_e162 us_e163 us_e164 us_e165 us_e166 us_e167) (va_cwS 5 hts gL_shares_L_loads rfl rfl rfl hd_L_loads ⟨Nat.le_of_ble_eq_true rfl, Nat.le_of_ble_eq_true rfl⟩) hK hNs hZ hP hD hS hA rfl hl.1 (Nat.le_of_ble_eq_true rfl) dL_shares_565 rfl ⟨Nat.le_of_ble_eq_true rfl, Nat.le_of_ble_eq_true rfl⟩ (fun w2 H locs hB hP hD hS => ?_)
  obtain ⟨qwa, qgi, qlo, qtu, rfl⟩ := hB
  refine lv_if_eq (tgt := 667) hx hb dL_shares_568 (by decide) (fun c => absurd c (by decide)) (fun _ => ?_)
  refine lv_aload_n hx hb dL_shares_571 rfl (lv_at hl 0 rfl) ?_
  refine lv_bipush (v := 10) hx hb dL_shares_572 (by decide) ?_
  refine lk_park (rest := []) (As := [.int 10]) (v := 0) hC (c_X0_balance l dC dI cI cZ h a us_a9 us_a10 us_a21 us_a22 us_a23 uF0 4 0 1 50 0 0 qwa qgi qlo qtu 10 us_e168) us_e169 (cwV 1 hts gL_shares_X0_balance rfl rfl rfl hd_X0_balance ⟨Nat.le_of_ble_eq_true rfl, Nat.le_of_ble_eq_true rfl⟩) hK hP hD hS hA rfl rfl hl.1 (Nat.le_of_ble_eq_true rfl) dL_shares_574 rfl ⟨Nat.le_of_ble_eq_true rfl, Nat.le_of_ble_eq_true rfl⟩ (fun qwa qgi qlo qtu H locs hP hD hS => ?_)
  rw [us_e170] at hP hD
  refine lv_if_ne (tgt := 667) hx hb dL_shares_577 (by decide) (fun c => absurd (by decide) c) (fun _ => ?_)
  refine lv_aload_n hx hb dL_shares_580 rfl (lv_at hl 0 rfl) ?_
  refine lv_iconst (v := 1) hx hb dL_shares_581 (by decide) ?_
  refine lk_park (rest := []) (As := [.int 1]) (v := 53) hC (c_X0_step l dC dI cI cZ h a us_a9 us_a10 us_a21 us_a22 us_a23 uF0 4 10 1 50 0 0 qwa qgi qlo qtu 4 1 (by decide +kernel) (by decide) us_e171) (us_e172 _ _ _ _) (cwV 1 hts gL_shares_X0_step rfl rfl rfl hd_X0_step ⟨Nat.le_of_ble_eq_true rfl, Nat.le_of_ble_eq_true rfl⟩) hK hP hD hS hA rfl rfl hl.1 (Nat.le_of_ble_eq_true rfl) dL_shares_582 rfl ⟨Nat.le_of_ble_eq_true rfl, Nat.le_of_ble_eq_true rfl⟩ (fun qwa qgi qlo qtu H locs hP hD hS => ?_)
  rw [us_e174, us_e175, us_e176] at hP hD
  refine lv_bipush (v := 53) hx hb dL_shares_585 (by decide) ?_
  refine lv_icmp_ne (tgt := 667) hx hb dL_shares_587 (by decide) (fun c => absurd (by decide) c) (fun _ => ?_)
  refine lv_aload_n hx hb dL_shares_590 rfl (lv_at hl 0 rfl) ?_
  refine lk_park (rest := []) (As := []) (v := 51) hC (c_X0_time l dC dI cI cZ h a us_a9 us_a10 us_a24 us_a22 us_a23 uF0 4 10 1 51 53 0 qwa qgi qlo qtu) us_e177 (cwV 0 hts gL_shares_X0_time rfl rfl rfl hd_X0_time ⟨Nat.le_of_ble_eq_true rfl, Nat.le_of_ble_eq_true rfl⟩) hK hP hD hS hA rfl rfl hl.1 (Nat.le_of_ble_eq_true rfl) dL_shares_591 rfl ⟨Nat.le_of_ble_eq_true rfl, Nat.le_of_ble_eq_true rfl⟩ (fun qwa qgi qlo qtu H locs hP hD hS => ?_)
  refine lv_bipush (v := 51) hx hb dL_shares_594 (by decide) ?_
  refine lv_icmp_ne (tgt := 667) hx hb dL_shares_596 (by decide) (fun c => absurd (by decide) c) (fun _ => ?_)
  refine lv_aload_n hx hb dL_shares_599 rfl (lv_at hl 0 rfl) ?_
  refine lv_iconst (v := 0) hx hb dL_shares_600 (by decide) ?_
  refine lk_park (rest := []) (As := [.int 0]) (v := 95) hC (c_X0_need l dC dI cI cZ h a us_a9 us_a10 us_a24 us_a22 us_a23 uF0 4 10 1 51 53 0 qwa qgi qlo qtu 4 0 (by decide +kernel) (by decide) us_e178) us_e179 (cwV 1 hts gL_shares_X0_need rfl rfl rfl hd_X0_need ⟨Nat.le_of_ble_eq_true rfl, Nat.le_of_ble_eq_true rfl⟩) hK hP hD hS hA rfl rfl hl.1 (Nat.le_of_ble_eq_true rfl) dL_shares_601 rfl ⟨Nat.le_of_ble_eq_true rfl, Nat.le_of_ble_eq_true rfl⟩ (fun qwa qgi qlo qtu H locs hP hD hS => ?_)
  refine lv_bipush (v := 95) hx hb dL_shares_604 (by decide) ?_
  refine lv_icmp_ne (tgt := 667) hx hb dL_shares_606 (by decide) (fun c => absurd (by decide) c) (fun _ => ?_)
  refine lv_aload_n hx hb dL_shares_609 rfl (lv_at hl 0 rfl) ?_
  refine lv_iconst (v := 1) hx hb dL_shares_610 (by decide) ?_
  refine lk_park (rest := []) (As := [.int 1]) (v := 15) hC (c_X0_need l dC dI cI cZ h a us_a9 us_a10 us_a24 us_a22 us_a23 uF0 4 10 1 51 53 0 qwa qgi qlo qtu 4 1 (by decide +kernel) (by decide) us_e180) us_e181 (cwV 1 hts gL_shares_X0_need rfl rfl rfl hd_X0_need ⟨Nat.le_of_ble_eq_true rfl, Nat.le_of_ble_eq_true rfl⟩) hK hP hD hS hA rfl rfl hl.1 (Nat.le_of_ble_eq_true rfl) dL_shares_611 rfl ⟨Nat.le_of_ble_eq_true rfl, Nat.le_of_ble_eq_true rfl⟩ (fun qwa qgi qlo qtu H locs hP hD hS => ?_)
  refine lv_bipush (v := 15) hx hb dL_shares_614 (by decide) ?_
  refine lv_icmp_ne (tgt := 667) hx hb dL_shares_616 (by decide) (fun c => absurd (by decide) c) (fun _ => ?_)
  refine lv_aload_n hx hb dL_shares_619 rfl (lv_at hl 0 rfl) ?_
  refine lv_iconst (v := 2) hx hb dL_shares_620 (by decide) ?_
  refine lk_park (rest := []) (As := [.int 2]) (v := 290) hC (c_X0_need l dC dI cI cZ h a us_a9 us_a10 us_a24 us_a22 us_a23 uF0 4 10 1 51 53 0 qwa qgi qlo qtu 4 2 (by decide +kernel) (by decide) us_e182) us_e183 (cwV 1 hts gL_shares_X0_need rfl rfl rfl hd_X0_need ⟨Nat.le_of_ble_eq_true rfl, Nat.le_of_ble_eq_true rfl⟩) hK hP hD hS hA rfl rfl hl.1 (Nat.le_of_ble_eq_true rfl) dL_shares_621 rfl ⟨Nat.le_of_ble_eq_true rfl, Nat.le_of_ble_eq_true rfl⟩ (fun qwa qgi qlo qtu H locs hP hD hS => ?_)
  refine lv_sipush (v := 290) hx hb dL_shares_624 (by decide) ?_
  refine lv_icmp_ne (tgt := 667) hx hb dL_shares_627 (by decide) (fun c => absurd (by decide) c) (fun _ => ?_)
  refine lv_aload_n hx hb dL_shares_630 rfl (lv_at hl 0 rfl) ?_
  refine lv_iconst (v := 3) hx hb dL_shares_631 (by decide) ?_
  refine lk_park (rest := []) (As := [.int 3]) (v := 57) hC (c_X0_need l dC dI cI cZ h a us_a9 us_a10 us_a24 us_a22 us_a23 uF0 4 10 1 51 53 0 qwa qgi qlo qtu 4 3 (by decide +kernel) (by decide) us_e184) us_e185 (cwV 1 hts gL_shares_X0_need rfl rfl rfl hd_X0_need ⟨Nat.le_of_ble_eq_true rfl, Nat.le_of_ble_eq_true rfl⟩) hK hP hD hS hA rfl rfl hl.1 (Nat.le_of_ble_eq_true rfl) dL_shares_632 rfl ⟨Nat.le_of_ble_eq_true rfl, Nat.le_of_ble_eq_true rfl⟩ (fun qwa qgi qlo qtu H locs hP hD hS => ?_)
  refine lv_bipush (v := 57) hx hb dL_shares_635 (by decide) ?_
  refine lv_icmp_ne (tgt := 667) hx hb dL_shares_637 (by decide) (fun c => absurd (by decide) c) (fun _ => ?_)
  refine lv_aload_n hx hb dL_shares_640 rfl (lv_at hl 0 rfl) ?_
  refine lk_park (rest := []) (As := []) (v := 53) hC (c_X0_taken l dC dI cI cZ h a us_a9 us_a10 us_a24 us_a22 us_a23 uF0 4 10 1 51 53 0 qwa qgi qlo qtu) us_e186 (cwV 0 hts gL_shares_X0_taken rfl rfl rfl hd_X0_taken ⟨Nat.le_of_ble_eq_true rfl, Nat.le_of_ble_eq_true rfl⟩) hK hP hD hS hA rfl rfl hl.1 (Nat.le_of_ble_eq_true rfl) dL_shares_641 rfl ⟨Nat.le_of_ble_eq_true rfl, Nat.le_of_ble_eq_true rfl⟩ (fun qwa qgi qlo qtu H locs hP hD hS => ?_)
  refine lv_bipush (v := 53) hx hb dL_shares_644 (by decide) ?_
  refine lv_icmp_ne (tgt := 667) hx hb dL_shares_646 (by decide) (fun c => absurd (by decide) c) (fun _ => ?_)
  refine lv_aload_n hx hb dL_shares_649 rfl (lv_at hl 0 rfl) ?_
  refine lv_iconst (v := 3) hx hb dL_shares_650 (by decide) ?_
  refine lk_park (rest := []) (As := [.int 3]) (v := 3) hC (c_X0_left l dC dI cI cZ h a us_a9 us_a10 us_a24 us_a22 us_a23 uF0 4 10 1 51 53 0 qwa qgi qlo qtu 4 3 (by decide +kernel) (by decide) us_e187) us_e188 (cwV 1 hts gL_shares_X0_left rfl rfl rfl hd_X0_left ⟨Nat.le_of_ble_eq_true rfl, Nat.le_of_ble_eq_true rfl⟩) hK hP hD hS hA rfl rfl hl.1 (Nat.le_of_ble_eq_true rfl) dL_shares_651 rfl ⟨Nat.le_of_ble_eq_true rfl, Nat.le_of_ble_eq_true rfl⟩ (fun qwa qgi qlo qtu H locs hP hD hS => ?_)
  refine lv_iconst (v := 3) hx hb dL_shares_654 (by decide) ?_
  refine lv_icmp_ne (tgt := 667) hx hb dL_shares_655 (by decide) (fun c => absurd (by decide) c) (fun _ => ?_)
  refine lv_aload_n hx hb dL_shares_658 rfl (lv_at hl 0 rfl) ?_
  refine lv_iconst (v := 3) hx hb dL_shares_659 (by decide) ?_
  refine lk_park (rest := []) (As := [.int 3]) (v := 2) hC (c_X0_laxity l dC dI cI cZ h a us_a9 us_a10 us_a24 us_a22 us_a23 uF0 4 10 1 51 53 0 qwa qgi qlo qtu 4 3 (by decide +kernel) (by decide) us_e189) us_e190 (cwV 1 hts gL_shares_X0_laxity rfl rfl rfl hd_X0_laxity ⟨Nat.le_of_ble_eq_true rfl, Nat.le_of_ble_eq_true rfl⟩) hK hP hD hS hA rfl rfl hl.1 (Nat.le_of_ble_eq_true rfl) dL_shares_660 rfl ⟨Nat.le_of_ble_eq_true rfl, Nat.le_of_ble_eq_true rfl⟩ (fun qwa qgi qlo qtu H locs hP hD hS => ?_)
  refine lv_iconst (v := 2) hx hb dL_shares_663 (by decide) ?_
  refine lv_icmp_eq (tgt := 669) hx hb dL_shares_664 (by decide) (fun _ => ?_) (fun c => absurd (by decide) c)
  refine lv_aload_n hx hb dL_shares_669 rfl (lv_at hl 0 rfl) ?_
  refine lv_bipush (v := 100) hx hb dL_shares_670 (by decide) ?_
  refine lk_park (rest := []) (As := [.int 100]) (v := 10) hC (c_X0_balance l dC dI cI cZ h a us_a9 us_a10 us_a24 us_a22 us_a23 uF0 4 10 1 51 53 0 qwa qgi qlo qtu 100 us_e191) us_e192 (cwV 1 hts gL_shares_X0_balance rfl rfl rfl hd_X0_balance ⟨Nat.le_of_ble_eq_true rfl, Nat.le_of_ble_eq_true rfl⟩) hK hP hD hS hA rfl rfl hl.1 (Nat.le_of_ble_eq_true rfl) dL_shares_672 rfl ⟨Nat.le_of_ble_eq_true rfl, Nat.le_of_ble_eq_true rfl⟩ (fun qwa qgi qlo qtu H locs hP hD hS => ?_)
  rw [us_e193] at hP hD
  refine lv_bipush (v := 10) hx hb dL_shares_675 (by decide) ?_
  refine lv_icmp_ne (tgt := 811) hx hb dL_shares_677 (by decide) (fun c => absurd (by decide) c) (fun _ => ?_)
  refine lv_aload_n hx hb dL_shares_680 rfl (lv_at hl 0 rfl) ?_
  refine lv_iconst (v := 0) hx hb dL_shares_681 (by decide) ?_
  refine lv_bipush (v := 7) hx hb dL_shares_682 (by decide) ?_
  refine lk_park (rest := []) (As := [.int 0, .int 7]) (v := 32) hC (c_X0_fuse l dC dI cI cZ h a us_a9 us_a10 us_a24 us_a22 us_a23 uF0 4 100 1 51 53 0 qwa qgi qlo qtu 0 7 us_e194) us_e195 (cwV 2 hts gL_shares_X0_fuse rfl rfl rfl hd_X0_fuse ⟨Nat.le_of_ble_eq_true rfl, Nat.le_of_ble_eq_true rfl⟩) hK hP hD hS hA rfl rfl hl.1 (Nat.le_of_ble_eq_true rfl) dL_shares_684 rfl ⟨Nat.le_of_ble_eq_true rfl, Nat.le_of_ble_eq_true rfl⟩ (fun qwa qgi qlo qtu H locs hP hD hS => ?_)
  rw [us_e196] at hP hD
  refine lv_bipush (v := 32) hx hb dL_shares_687 (by decide) ?_
  refine lv_icmp_ne (tgt := 811) hx hb dL_shares_689 (by decide) (fun c => absurd (by decide) c) (fun _ => ?_)
  refine lv_aload_n hx hb dL_shares_692 rfl (lv_at hl 0 rfl) ?_
  refine lv_iconst (v := 3) hx hb dL_shares_693 (by decide) ?_
  refine lv_iconst (v := 2) hx hb dL_shares_694 (by decide) ?_
  refine lv_bipush (v := 30) hx hb dL_shares_695 (by decide) ?_
  refine lv_iconst (v := 2) hx hb dL_shares_697 (by decide) ?_
  refine lk_call (rest := []) (As := [.ref h, .int 3, .int 2, .int 30, .int 2]) hC (c_L_gives l dC dI cI cZ h a us_a9 us_a10 us_a24 us_a22 us_a23 us_a25 4 100 1 51 53 0 qwa qgi qlo qtu 4 3 2 30 2 (by decide +kernel) (by decide) us_e197 us_e199 us_e200 us_e201 us_e202 us_e203 us_e204 us_e205) (va_cwS 5 hts gL_shares_L_gives rfl rfl rfl hd_L_gives ⟨Nat.le_of_ble_eq_true rfl, Nat.le_of_ble_eq_true rfl⟩) hK hNs hZ hP hD hS hA rfl hl.1 (Nat.le_of_ble_eq_true rfl) dL_shares_698 rfl ⟨Nat.le_of_ble_eq_true rfl, Nat.le_of_ble_eq_true rfl⟩ (fun w2 H locs hB hP hD hS => ?_)
  obtain ⟨qwa, qgi, qlo, qtu, rfl⟩ := hB
  refine lv_if_eq (tgt := 811) hx hb dL_shares_701 (by decide) (fun c => absurd c (by decide)) (fun _ => ?_)
  refine lv_aload_n hx hb dL_shares_704 rfl (lv_at hl 0 rfl) ?_
  refine lv_bipush (v := 7) hx hb dL_shares_705 (by decide) ?_
  refine lv_bipush (v := 32) hx hb dL_shares_707 (by decide) ?_
  refine lv_iconst (v := 2) hx hb dL_shares_709 (by decide) ?_
  refine lv_bipush (v := 30) hx hb dL_shares_710 (by decide) ?_
  refine lk_call (rest := []) (As := [.ref h, .int 7, .int 32, .int 2, .int 30]) hC (c_L_loads l dC dI cI cZ h a us_a9 us_a10 us_a24 us_a22 us_a23 us_a25 4 100 1 51 53 0 qwa qgi qlo qtu 4 7 32 2 30 (by decide +kernel) (by decide) us_e206 us_e207 us_e208 us_e209 us_e210 us_e211 us_e212) (va_cwS 5 hts gL_shares_L_loads rfl rfl rfl hd_L_loads ⟨Nat.le_of_ble_eq_true rfl, Nat.le_of_ble_eq_true rfl⟩) hK hNs hZ hP hD hS hA rfl hl.1 (Nat.le_of_ble_eq_true rfl) dL_shares_712 rfl ⟨Nat.le_of_ble_eq_true rfl, Nat.le_of_ble_eq_true rfl⟩ (fun w2 H locs hB hP hD hS => ?_)
  obtain ⟨qwa, qgi, qlo, qtu, rfl⟩ := hB
  refine lv_if_eq (tgt := 811) hx hb dL_shares_715 (by decide) (fun c => absurd c (by decide)) (fun _ => ?_)
  refine lv_aload_n hx hb dL_shares_718 rfl (lv_at hl 0 rfl) ?_
  refine lv_iconst (v := 0) hx hb dL_shares_719 (by decide) ?_
  refine lk_park (rest := []) (As := [.int 0]) (v := 2500) hC (c_X0_fairLevel l dC dI cI cZ h a us_a9 us_a10 us_a24 us_a22 us_a23 us_a25 4 100 1 51 53 0 qwa qgi qlo qtu 4 0 (by decide +kernel) (by decide) us_e213) (us_e214 _ _ _ _) (cwV 1 hts gL_shares_X0_fairLevel rfl rfl rfl hd_X0_fairLevel ⟨Nat.le_of_ble_eq_true rfl, Nat.le_of_ble_eq_true rfl⟩) hK hP hD hS hA rfl rfl hl.1 (Nat.le_of_ble_eq_true rfl) dL_shares_720 rfl ⟨Nat.le_of_ble_eq_true rfl, Nat.le_of_ble_eq_true rfl⟩ (fun qwa qgi qlo qtu H locs hP hD hS => ?_)
  refine lv_sipush (v := 2500) hx hb dL_shares_723 (by decide) ?_
  refine lv_icmp_ne (tgt := 811) hx hb dL_shares_726 (by decide) (fun c => absurd (by decide) c) (fun _ => ?_)
  refine lv_aload_n hx hb dL_shares_729 rfl (lv_at hl 0 rfl) ?_
  refine lv_iconst (v := 1) hx hb dL_shares_730 (by decide) ?_
  refine lv_iconst (v := 0) hx hb dL_shares_731 (by decide) ?_
  refine lk_park (rest := []) (As := [.int 1, .int 0]) (v := 32) hC (c_X0_fuse l dC dI cI cZ h a us_a9 us_a10 us_a24 us_a22 us_a23 us_a25 4 100 1 51 53 0 qwa qgi qlo qtu 1 0 us_e215) us_e216 (cwV 2 hts gL_shares_X0_fuse rfl rfl rfl hd_X0_fuse ⟨Nat.le_of_ble_eq_true rfl, Nat.le_of_ble_eq_true rfl⟩) hK hP hD hS hA rfl rfl hl.1 (Nat.le_of_ble_eq_true rfl) dL_shares_732 rfl ⟨Nat.le_of_ble_eq_true rfl, Nat.le_of_ble_eq_true rfl⟩ (fun qwa qgi qlo qtu H locs hP hD hS => ?_)
  rw [us_e217] at hP hD
  refine lv_bipush (v := 32) hx hb dL_shares_735 (by decide) ?_
  refine lv_icmp_ne (tgt := 811) hx hb dL_shares_737 (by decide) (fun c => absurd (by decide) c) (fun _ => ?_)
  refine lv_aload_n hx hb dL_shares_740 rfl (lv_at hl 0 rfl) ?_
  refine lv_iconst (v := 4) hx hb dL_shares_741 (by decide) ?_
  refine lv_iconst (v := 3) hx hb dL_shares_742 (by decide) ?_
  refine lv_iconst (v := 0) hx hb dL_shares_743 (by decide) ?_
  refine lv_iconst (v := 0) hx hb dL_shares_744 (by decide) ?_
  refine lk_call (rest := []) (As := [.ref h, .int 4, .int 3, .int 0, .int 0]) hC (c_L_gives l dC dI cI cZ h a us_a9 us_a10 us_a24 us_a22 us_a23 us_a26 4 100 1 51 53 0 qwa qgi qlo qtu 4 4 3 0 0 (by decide +kernel) (by decide) us_e218 us_e220 us_e221 us_e222 us_e223 us_e224 us_e225 us_e226) (va_cwS 5 hts gL_shares_L_gives rfl rfl rfl hd_L_gives ⟨Nat.le_of_ble_eq_true rfl, Nat.le_of_ble_eq_true rfl⟩) hK hNs hZ hP hD hS hA rfl hl.1 (Nat.le_of_ble_eq_true rfl) dL_shares_745 rfl ⟨Nat.le_of_ble_eq_true rfl, Nat.le_of_ble_eq_true rfl⟩ (fun w2 H locs hB hP hD hS => ?_)
  obtain ⟨qwa, qgi, qlo, qtu, rfl⟩ := hB
  refine lv_if_eq (tgt := 811) hx hb dL_shares_748 (by decide) (fun c => absurd c (by decide)) (fun _ => ?_)
  refine lv_aload_n hx hb dL_shares_751 rfl (lv_at hl 0 rfl) ?_
  refine lv_iconst (v := 1) hx hb dL_shares_752 (by decide) ?_
  refine lk_park (rest := []) (As := [.int 1]) (v := 0) hC (c_X0_fairLevel l dC dI cI cZ h a us_a9 us_a10 us_a24 us_a22 us_a23 us_a26 4 100 1 51 53 0 qwa qgi qlo qtu 4 1 (by decide +kernel) (by decide) us_e227) (us_e228 _ _ _ _) (cwV 1 hts gL_shares_X0_fairLevel rfl rfl rfl hd_X0_fairLevel ⟨Nat.le_of_ble_eq_true rfl, Nat.le_of_ble_eq_true rfl⟩) hK hP hD hS hA rfl rfl hl.1 (Nat.le_of_ble_eq_true rfl) dL_shares_753 rfl ⟨Nat.le_of_ble_eq_true rfl, Nat.le_of_ble_eq_true rfl⟩ (fun qwa qgi qlo qtu H locs hP hD hS => ?_)
  refine lv_if_ne (tgt := 811) hx hb dL_shares_756 (by decide) (fun c => absurd (by decide) c) (fun _ => ?_)
  refine lv_aload_n hx hb dL_shares_759 rfl (lv_at hl 0 rfl) ?_
  refine lv_iconst (v := 0) hx hb dL_shares_760 (by decide) ?_
  refine lk_park (rest := []) (As := [.int 0]) (v := 3500) hC (c_X0_fairLevel l dC dI cI cZ h a us_a9 us_a10 us_a24 us_a22 us_a23 us_a26 4 100 1 51 53 0 qwa qgi qlo qtu 4 0 (by decide +kernel) (by decide) us_e229) (us_e230 _ _ _ _) (cwV 1 hts gL_shares_X0_fairLevel rfl rfl rfl hd_X0_fairLevel ⟨Nat.le_of_ble_eq_true rfl, Nat.le_of_ble_eq_true rfl⟩) hK hP hD hS hA rfl rfl hl.1 (Nat.le_of_ble_eq_true rfl) dL_shares_761 rfl ⟨Nat.le_of_ble_eq_true rfl, Nat.le_of_ble_eq_true rfl⟩ (fun qwa qgi qlo qtu H locs hP hD hS => ?_)
  refine lv_sipush (v := 3500) hx hb dL_shares_764 (by decide) ?_
  refine lv_icmp_ne (tgt := 811) hx hb dL_shares_767 (by decide) (fun c => absurd (by decide) c) (fun _ => ?_)
  refine lv_aload_n hx hb dL_shares_770 rfl (lv_at hl 0 rfl) ?_
  refine lv_iconst (v := 0) hx hb dL_shares_771 (by decide) ?_
  refine lk_park (rest := []) (As := [.int 0]) (v := 1) hC (c_X0_rule l dC dI cI cZ h a us_a9 us_a10 us_a24 us_a22 us_a23 us_a26 4 100 1 51 53 0 qwa qgi qlo qtu 0 us_e231) us_e232 (cwV 1 hts gL_shares_X0_rule rfl rfl rfl hd_X0_rule ⟨Nat.le_of_ble_eq_true rfl, Nat.le_of_ble_eq_true rfl⟩) hK hP hD hS hA rfl rfl hl.1 (Nat.le_of_ble_eq_true rfl) dL_shares_772 rfl ⟨Nat.le_of_ble_eq_true rfl, Nat.le_of_ble_eq_true rfl⟩ (fun qwa qgi qlo qtu H locs hP hD hS => ?_)
  rw [us_e233] at hP hD
  refine lv_iconst (v := 1) hx hb dL_shares_775 (by decide) ?_
  refine lv_icmp_ne (tgt := 811) hx hb dL_shares_776 (by decide) (fun c => absurd (by decide) c) (fun _ => ?_)
  refine lv_aload_n hx hb dL_shares_779 rfl (lv_at hl 0 rfl) ?_
  refine lv_iconst (v := 0) hx hb dL_shares_780 (by decide) ?_
  refine lv_bipush (v := 7) hx hb dL_shares_781 (by decide) ?_
  refine lv_iconst (v := 0) hx hb dL_shares_783 (by decide) ?_
  refine lv_iconst (v := 0) hx hb dL_shares_784 (by decide) ?_
  refine lk_call (rest := []) (As := [.ref h, .int 0, .int 7, .int 0, .int 0]) hC (c_L_gives l dC dI cI cZ h a us_a9 us_a10 us_a24 us_a22 us_a23 us_a26 4 100 0 51 53 0 qwa qgi qlo qtu 4 0 7 0 0 (by decide +kernel) (by decide) us_e234 us_e236 us_e237 us_e238 us_e239 us_e240 us_e241 us_e242) (va_cwS 5 hts gL_shares_L_gives rfl rfl rfl hd_L_gives ⟨Nat.le_of_ble_eq_true rfl, Nat.le_of_ble_eq_true rfl⟩) hK hNs hZ hP hD hS hA rfl hl.1 (Nat.le_of_ble_eq_true rfl) dL_shares_785 rfl ⟨Nat.le_of_ble_eq_true rfl, Nat.le_of_ble_eq_true rfl⟩ (fun w2 H locs hB hP hD hS => ?_)
  obtain ⟨qwa, qgi, qlo, qtu, rfl⟩ := hB
  refine lv_if_eq (tgt := 811) hx hb dL_shares_788 (by decide) (fun c => absurd c (by decide)) (fun _ => ?_)
  refine lv_aload_n hx hb dL_shares_791 rfl (lv_at hl 0 rfl) ?_
  refine lk_park (rest := []) (As := []) (v := 15) hC (c_X0_held l dC dI cI cZ h a us_a9 us_a10 us_a24 us_a22 us_a23 us_a26 4 100 0 51 53 0 qwa qgi qlo qtu 4 (by decide +kernel) (by decide)) (us_e243 _ _ _ _) (cwV 0 hts gL_shares_X0_held rfl rfl rfl hd_X0_held ⟨Nat.le_of_ble_eq_true rfl, Nat.le_of_ble_eq_true rfl⟩) hK hP hD hS hA rfl rfl hl.1 (Nat.le_of_ble_eq_true rfl) dL_shares_792 rfl ⟨Nat.le_of_ble_eq_true rfl, Nat.le_of_ble_eq_true rfl⟩ (fun qwa qgi qlo qtu H locs hP hD hS => ?_)
  refine lv_bipush (v := 15) hx hb dL_shares_795 (by decide) ?_
  refine lv_icmp_ne (tgt := 811) hx hb dL_shares_797 (by decide) (fun c => absurd (by decide) c) (fun _ => ?_)
  refine lv_aload_n hx hb dL_shares_800 rfl (lv_at hl 0 rfl) ?_
  refine lk_call (rest := []) (As := [.ref h]) hC (c_L_refuses l hl0 dC dI cI cZ h a us_a9 us_a10 us_a24 us_a22 us_a23 us_a26 4 100 0 51 53 0 qwa qgi qlo qtu 4 (by decide +kernel) (by decide) (by decide) _ (fun wa gi lo tu => ob_held (by decide) us_e235 wa gi lo tu uZ uZ uZ uZ)) (va_cwS 1 hts gL_shares_L_refuses rfl rfl rfl hd_L_refuses ⟨Nat.le_of_ble_eq_true rfl, Nat.le_of_ble_eq_true rfl⟩) hK hNs hZ hP hD hS hA rfl hl.1 (Nat.le_of_ble_eq_true rfl) dL_shares_801 rfl ⟨Nat.le_of_ble_eq_true rfl, Nat.le_of_ble_eq_true rfl⟩ (fun w2 H locs hB hP hD hS => ?_)
  obtain ⟨qwa, qgi, qlo, qtu, rfl⟩ := hB
  refine lv_if_eq (tgt := 811) hx hb dL_shares_804 (by decide) (fun c => absurd c (by decide)) (fun _ => ?_)
  refine lv_iconst (v := 1) hx hb dL_shares_807 (by decide) ?_
  refine lv_goto (tgt := 812) hx hb dL_shares_808 (by decide) ?_
  exact hret H locs _ 812 ls trivial hS hP hD dL_shares_812
