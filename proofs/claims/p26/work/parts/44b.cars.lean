theorem hd_L_cars : yL_cars.cls ≠ "java/lang/invoke/MethodHandle" ∧ yL_cars.cls ≠ "java/lang/invoke/VarHandle" ∧ (parseMethodDescriptor yL_cars.desc).map (fun d => d.parameters.length) = some 0 := by decide +kernel
abbrev rmL_cars : Room := { frames := 10, cells := 103, slots := 638, locals := 208 }
set_option maxHeartbeats 4000000 in
set_option maxRecDepth 100000 in
theorem c_L_cars (l : Launch) (hl0 : l.stackTraces = false) (dC : Nat → ClassId) (dI : Nat → Nat → Nat) (cI cZ : ClassId) : Lk l yL_cars wsL_cars rmL_cars dC dI cI cZ [] [] 1 (fun _ => True) 103 638 := by
  refine lk_enter (cc := cL_cars) (maxL := 1) (by decide) rfl (Nat.zero_le _) ?_
  intro p e s m args below meth c A ls Q hC hK hNs hZ hP hD hS hA hl hret
  obtain ⟨hx, hb, hml, hown, hts⟩ := id hC
  have hin : ∀ w ∈ wsX00, w ∈ wsL_cars := by decide +kernel
  have hl : lv_has ls 1 [] := hl
  refine va_new (ci := 0) (fs := [.null, .null, .null, .null, .null, .null, .int 0, .int 0, .int 0, .int 0, .int 0, .int 0, .null, .null, .null, .null]) (C := RX0) (T := TX0) (N := 16) hx hb hts hin tyX0 tyX0_ok hown (hts (.classLink RL 8 RX0) (by decide +kernel)) (hts (.instantiable RX0 16) (by decide +kernel)) (hts (.initialized RX0) (by decide +kernel)) hK hP hD hS hA rfl (fun j hj => by rcases (show j = 0 ∨ j = 1 ∨ j = 2 ∨ j = 3 ∨ j = 4 ∨ j = 5 ∨ j = 6 ∨ j = 7 ∨ j = 8 ∨ j = 9 ∨ j = 10 ∨ j = 11 ∨ j = 12 ∨ j = 13 ∨ j = 14 ∨ j = 15 by omega) with rfl | rfl | rfl | rfl | rfl | rfl | rfl | rfl | rfl | rfl | rfl | rfl | rfl | rfl | rfl | rfl <;> rfl) (Nat.le_of_ble_eq_true rfl) (Nat.le_of_ble_eq_true rfl) dL_cars_0 (fun h H hP hD hS => ?_)
  refine W.widen (k := 1) (n := 16) (Nat.le_of_ble_eq_true rfl) (Nat.le_of_ble_eq_true rfl) ?_
  have hP : va_P (dC, dI) vwCl [(h, .inr (0, [.null, .null, .null, .null, .null, .null, .int 0, .int 0, .int 0, .int 0, .int 0, .int 0, .null, .null, .null, .null]))] H := hP
  have hD : va_D A [(h, .inr (0, [.null, .null, .null, .null, .null, .null, .int 0, .int 0, .int 0, .int 0, .int 0, .int 0, .null, .null, .null, .null]))] := hD
  refine lv_dup hx hb dL_cars_3 rfl ?_
  have hF := k_free hD hS hA
  refine va_callv (va_runI (As := []) (rest := [.ref h]) hC (c_X0_init l dC dI cI cZ h H.size) (cwI 0 hts gL_cars_X0_init rfl rfl rfl (hts (.initialized RX0) (by decide +kernel)) (hts (.methodLink RL 92 yX0_init) (by decide +kernel)) (hts (.instanceMethod yX0_init) (by decide +kernel)) rfl (by decide +kernel) ⟨Nat.le_of_ble_eq_true rfl, Nat.le_of_ble_eq_true rfl⟩) ⟨kPre_blind, kPre_at hK hP hD⟩ rfl rfl hl.1 rfl (lv_room (Nat.le_of_ble_eq_true rfl)) dL_cars_4 ⟨Nat.le_of_ble_eq_true rfl, Nat.le_of_ble_eq_true rfl⟩) hS (fun q _ h => hF q h) hF (fun a t H1 locs ht hvm hw hB hz1 hk1 hS => ?_)
  obtain ⟨hP1, hD1⟩ := hB
  rw [ht] at hP1
  have hP : va_P (dC, dI) vwCl (xW cI cZ h a uZ uZ uZ uZ uZ uF0 0 100 0 0 0 0 uZ uZ uZ uZ) H1 := hP1
  have hD : va_D A (xW cI cZ h a uZ uZ uZ uZ uZ uF0 0 100 0 0 0 0 uZ uZ uZ uZ) := hD1.weaken (fun _ q _ h => hF _ h)
  obtain ⟨qwa, hqwa⟩ : ∃ x, x = uZ := ⟨_, rfl⟩
  obtain ⟨qgi, hqgi⟩ : ∃ x, x = uZ := ⟨_, rfl⟩
  obtain ⟨qlo, hqlo⟩ : ∃ x, x = uZ := ⟨_, rfl⟩
  obtain ⟨qtu, hqtu⟩ : ∃ x, x = uZ := ⟨_, rfl⟩
  have hP : va_P (dC, dI) vwCl (xW cI cZ h a uZ uZ uZ uZ uZ uF0 0 100 0 0 0 0 qwa qgi qlo qtu) H1 := by rw [hqwa, hqgi, hqlo, hqtu]; exact hP
  have hD : va_D A (xW cI cZ h a uZ uZ uZ uZ uZ uF0 0 100 0 0 0 0 qwa qgi qlo qtu) := by rw [hqwa, hqgi, hqlo, hqtu]; exact hD
  generalize H1 = H at hP hS ⊢
  refine W.widen (k := 11) (n := 86) (Nat.le_of_ble_eq_true rfl) (Nat.le_of_ble_eq_true rfl) ?_
  refine lv_astore_n (lv' := [(0, .ref h)]) hx hb dL_cars_7 rfl hl (by decide) rfl (fun ls hl => ?_)
  refine lv_aload_n hx hb dL_cars_8 rfl (lv_at hl 0 rfl) ?_
  refine lv_iconst (v := 3) hx hb dL_cars_9 (by decide) ?_
  refine lv_bipush (v := 6) hx hb dL_cars_10 (by decide) ?_
  refine lk_park (rest := []) (As := [.int 3, .int 6]) (v := 0) hC (c_X0_point l dC dI cI cZ h a uZ uZ uZ uZ uZ uF0 0 100 0 0 0 0 qwa qgi qlo qtu 0 3 6 (by decide +kernel) (by decide) uc_e0) uc_e1 (cwV 2 hts gL_cars_X0_point rfl rfl rfl hd_X0_point ⟨Nat.le_of_ble_eq_true rfl, Nat.le_of_ble_eq_true rfl⟩) hK hP hD hS hA rfl rfl hl.1 (Nat.le_of_ble_eq_true rfl) dL_cars_12 rfl ⟨Nat.le_of_ble_eq_true rfl, Nat.le_of_ble_eq_true rfl⟩ (fun qwa qgi qlo qtu H locs hP hD hS => ?_)
  rw [uc_e2, uc_e3, uc_e4, uc_e5] at hP hD
  refine lv_if_ne (tgt := 254) hx hb dL_cars_15 (by decide) (fun c => absurd (by decide) c) (fun _ => ?_)
  refine lv_aload_n hx hb dL_cars_18 rfl (lv_at hl 0 rfl) ?_
  refine lv_iconst (v := 2) hx hb dL_cars_19 (by decide) ?_
  refine lv_bipush (v := 6) hx hb dL_cars_20 (by decide) ?_
  refine lk_park (rest := []) (As := [.int 2, .int 6]) (v := 1) hC (c_X0_point l dC dI cI cZ h a uc_a0 uc_a1 uc_a2 uZ uZ uF0 1 100 0 0 0 0 qwa qgi qlo qtu 1 2 6 (by decide +kernel) (by decide) uc_e6) uc_e7 (cwV 2 hts gL_cars_X0_point rfl rfl rfl hd_X0_point ⟨Nat.le_of_ble_eq_true rfl, Nat.le_of_ble_eq_true rfl⟩) hK hP hD hS hA rfl rfl hl.1 (Nat.le_of_ble_eq_true rfl) dL_cars_22 rfl ⟨Nat.le_of_ble_eq_true rfl, Nat.le_of_ble_eq_true rfl⟩ (fun qwa qgi qlo qtu H locs hP hD hS => ?_)
  rw [uc_e8, uc_e9, uc_e10, uc_e11] at hP hD
  refine lv_iconst (v := 1) hx hb dL_cars_25 (by decide) ?_
  refine lv_icmp_ne (tgt := 254) hx hb dL_cars_26 (by decide) (fun c => absurd (by decide) c) (fun _ => ?_)
  refine lv_aload_n hx hb dL_cars_29 rfl (lv_at hl 0 rfl) ?_
  refine lv_iconst (v := 0) hx hb dL_cars_30 (by decide) ?_
  refine lv_bipush (v := 20) hx hb dL_cars_31 (by decide) ?_
  refine lv_iconst (v := 5) hx hb dL_cars_33 (by decide) ?_
  refine lv_iconst (v := 2) hx hb dL_cars_34 (by decide) ?_
  refine lk_park (rest := []) (As := [.int 0, .int 20, .int 5, .int 2]) (v := 0) hC (c_X0_plugIn l dC dI cI cZ h a uc_a3 uc_a4 uc_a5 uZ uZ uF0 2 100 0 0 0 0 qwa qgi qlo qtu 2 0 20 5 2 (by decide +kernel) (by decide) uc_e12) uc_e13 (cwV 4 hts gL_cars_X0_plugIn rfl rfl rfl hd_X0_plugIn ⟨Nat.le_of_ble_eq_true rfl, Nat.le_of_ble_eq_true rfl⟩) hK hP hD hS hA rfl rfl hl.1 (Nat.le_of_ble_eq_true rfl) dL_cars_35 rfl ⟨Nat.le_of_ble_eq_true rfl, Nat.le_of_ble_eq_true rfl⟩ (fun qwa qgi qlo qtu H locs hP hD hS => ?_)
  rw [uc_e14, uc_e15, uc_e16] at hP hD
  refine lv_if_ne (tgt := 254) hx hb dL_cars_38 (by decide) (fun c => absurd (by decide) c) (fun _ => ?_)
  refine lv_aload_n hx hb dL_cars_41 rfl (lv_at hl 0 rfl) ?_
  refine lv_iconst (v := 0) hx hb dL_cars_42 (by decide) ?_
  refine lk_park (rest := []) (As := [.int 0]) (v := 5) hC (c_X0_reach l dC dI cI cZ h a uc_a3 uc_a4 uc_a6 uc_a7 uc_a8 uF0 2 100 0 0 0 0 qwa qgi qlo qtu 2 0 (by decide +kernel) (by decide) uc_e17) uc_e18 (cwV 1 hts gL_cars_X0_reach rfl rfl rfl hd_X0_reach ⟨Nat.le_of_ble_eq_true rfl, Nat.le_of_ble_eq_true rfl⟩) hK hP hD hS hA rfl rfl hl.1 (Nat.le_of_ble_eq_true rfl) dL_cars_43 rfl ⟨Nat.le_of_ble_eq_true rfl, Nat.le_of_ble_eq_true rfl⟩ (fun qwa qgi qlo qtu H locs hP hD hS => ?_)
  refine lv_iconst (v := 5) hx hb dL_cars_46 (by decide) ?_
  refine lv_icmp_ne (tgt := 254) hx hb dL_cars_47 (by decide) (fun c => absurd (by decide) c) (fun _ => ?_)
  refine lv_aload_n hx hb dL_cars_50 rfl (lv_at hl 0 rfl) ?_
  refine lv_iconst (v := 1) hx hb dL_cars_51 (by decide) ?_
  refine lv_iconst (v := 3) hx hb dL_cars_52 (by decide) ?_
  refine lv_bipush (v := 32) hx hb dL_cars_53 (by decide) ?_
  refine lv_iconst (v := 1) hx hb dL_cars_55 (by decide) ?_
  refine lk_park (rest := []) (As := [.int 1, .int 3, .int 32, .int 1]) (v := 0) hC (c_X0_plugIn l dC dI cI cZ h a uc_a3 uc_a4 uc_a6 uc_a7 uc_a8 uF0 2 100 0 0 0 0 qwa qgi qlo qtu 2 1 3 32 1 (by decide +kernel) (by decide) uc_e19) uc_e20 (cwV 4 hts gL_cars_X0_plugIn rfl rfl rfl hd_X0_plugIn ⟨Nat.le_of_ble_eq_true rfl, Nat.le_of_ble_eq_true rfl⟩) hK hP hD hS hA rfl rfl hl.1 (Nat.le_of_ble_eq_true rfl) dL_cars_56 rfl ⟨Nat.le_of_ble_eq_true rfl, Nat.le_of_ble_eq_true rfl⟩ (fun qwa qgi qlo qtu H locs hP hD hS => ?_)
  rw [uc_e21, uc_e22, uc_e23] at hP hD
  refine lv_if_ne (tgt := 254) hx hb dL_cars_59 (by decide) (fun c => absurd (by decide) c) (fun _ => ?_)
  refine lv_aload_n hx hb dL_cars_62 rfl (lv_at hl 0 rfl) ?_
  refine lv_iconst (v := 1) hx hb dL_cars_63 (by decide) ?_
  refine lk_park (rest := []) (As := [.int 1]) (v := 3) hC (c_X0_reach l dC dI cI cZ h a uc_a3 uc_a4 uc_a9 uc_a10 uc_a11 uF0 2 100 0 0 0 0 qwa qgi qlo qtu 2 1 (by decide +kernel) (by decide) uc_e24) uc_e25 (cwV 1 hts gL_cars_X0_reach rfl rfl rfl hd_X0_reach ⟨Nat.le_of_ble_eq_true rfl, Nat.le_of_ble_eq_true rfl⟩) hK hP hD hS hA rfl rfl hl.1 (Nat.le_of_ble_eq_true rfl) dL_cars_64 rfl ⟨Nat.le_of_ble_eq_true rfl, Nat.le_of_ble_eq_true rfl⟩ (fun qwa qgi qlo qtu H locs hP hD hS => ?_)
  refine lv_iconst (v := 3) hx hb dL_cars_67 (by decide) ?_
  refine lv_icmp_ne (tgt := 254) hx hb dL_cars_68 (by decide) (fun c => absurd (by decide) c) (fun _ => ?_)
  refine lv_aload_n hx hb dL_cars_71 rfl (lv_at hl 0 rfl) ?_
  refine lk_park (rest := []) (As := []) (v := 1) hC (c_X0_canBeReady l dC dI cI cZ h a uc_a3 uc_a4 uc_a9 uc_a10 uc_a11 uF0 2 100 0 0 0 0 qwa qgi qlo qtu 2 (by decide +kernel) (by decide)) uc_e26 (cwV 0 hts gL_cars_X0_canBeReady rfl rfl rfl hd_X0_canBeReady ⟨Nat.le_of_ble_eq_true rfl, Nat.le_of_ble_eq_true rfl⟩) hK hP hD hS hA rfl rfl hl.1 (Nat.le_of_ble_eq_true rfl) dL_cars_72 rfl ⟨Nat.le_of_ble_eq_true rfl, Nat.le_of_ble_eq_true rfl⟩ (fun qwa qgi qlo qtu H locs hP hD hS => ?_)
  refine lv_if_eq (tgt := 254) hx hb dL_cars_75 (by decide) (fun c => absurd c (by decide)) (fun _ => ?_)
  refine lv_aload_n hx hb dL_cars_78 rfl (lv_at hl 0 rfl) ?_
  refine lv_iconst (v := 1) hx hb dL_cars_79 (by decide) ?_
  refine lk_park (rest := []) (As := [.int 1]) (v := 18) hC (c_X0_step l dC dI cI cZ h a uc_a3 uc_a4 uc_a9 uc_a10 uc_a11 uF0 2 100 0 0 0 0 qwa qgi qlo qtu 2 1 (by decide +kernel) (by decide) uc_e27) (uc_e29 _ _ _ _) (cwV 1 hts gL_cars_X0_step rfl rfl rfl hd_X0_step ⟨Nat.le_of_ble_eq_true rfl, Nat.le_of_ble_eq_true rfl⟩) hK hP hD hS hA rfl rfl hl.1 (Nat.le_of_ble_eq_true rfl) dL_cars_80 rfl ⟨Nat.le_of_ble_eq_true rfl, Nat.le_of_ble_eq_true rfl⟩ (fun qwa qgi qlo qtu H locs hP hD hS => ?_)
  rw [uc_e31, uc_e32, uc_e33] at hP hD
  refine lv_bipush (v := 18) hx hb dL_cars_83 (by decide) ?_
  refine lv_icmp_ne (tgt := 254) hx hb dL_cars_85 (by decide) (fun c => absurd (by decide) c) (fun _ => ?_)
  refine lv_aload_n hx hb dL_cars_88 rfl (lv_at hl 0 rfl) ?_
  refine lv_iconst (v := 0) hx hb dL_cars_89 (by decide) ?_
  refine lk_park (rest := []) (As := [.int 0]) (v := 5) hC (c_X0_need l dC dI cI cZ h a uc_a3 uc_a4 uc_a12 uc_a10 uc_a11 uF0 2 100 0 1 18 0 qwa qgi qlo qtu 2 0 (by decide +kernel) (by decide) uc_e34) uc_e35 (cwV 1 hts gL_cars_X0_need rfl rfl rfl hd_X0_need ⟨Nat.le_of_ble_eq_true rfl, Nat.le_of_ble_eq_true rfl⟩) hK hP hD hS hA rfl rfl hl.1 (Nat.le_of_ble_eq_true rfl) dL_cars_90 rfl ⟨Nat.le_of_ble_eq_true rfl, Nat.le_of_ble_eq_true rfl⟩ (fun qwa qgi qlo qtu H locs hP hD hS => ?_)
  refine lv_iconst (v := 5) hx hb dL_cars_93 (by decide) ?_
  refine lv_icmp_ne (tgt := 254) hx hb dL_cars_94 (by decide) (fun c => absurd (by decide) c) (fun _ => ?_)
  refine lv_aload_n hx hb dL_cars_97 rfl (lv_at hl 0 rfl) ?_
  refine lv_iconst (v := 1) hx hb dL_cars_98 (by decide) ?_
  refine lk_park (rest := []) (As := [.int 1]) (v := 0) hC (c_X0_need l dC dI cI cZ h a uc_a3 uc_a4 uc_a12 uc_a10 uc_a11 uF0 2 100 0 1 18 0 qwa qgi qlo qtu 2 1 (by decide +kernel) (by decide) uc_e36) uc_e37 (cwV 1 hts gL_cars_X0_need rfl rfl rfl hd_X0_need ⟨Nat.le_of_ble_eq_true rfl, Nat.le_of_ble_eq_true rfl⟩) hK hP hD hS hA rfl rfl hl.1 (Nat.le_of_ble_eq_true rfl) dL_cars_99 rfl ⟨Nat.le_of_ble_eq_true rfl, Nat.le_of_ble_eq_true rfl⟩ (fun qwa qgi qlo qtu H locs hP hD hS => ?_)
  refine lv_if_ne (tgt := 254) hx hb dL_cars_102 (by decide) (fun c => absurd (by decide) c) (fun _ => ?_)
  refine lv_aload_n hx hb dL_cars_105 rfl (lv_at hl 0 rfl) ?_
  refine lv_iconst (v := 1) hx hb dL_cars_106 (by decide) ?_
  refine lk_park (rest := []) (As := [.int 1]) (v := 0) hC (c_X0_left l dC dI cI cZ h a uc_a3 uc_a4 uc_a12 uc_a10 uc_a11 uF0 2 100 0 1 18 0 qwa qgi qlo qtu 2 1 (by decide +kernel) (by decide) uc_e38) uc_e39 (cwV 1 hts gL_cars_X0_left rfl rfl rfl hd_X0_left ⟨Nat.le_of_ble_eq_true rfl, Nat.le_of_ble_eq_true rfl⟩) hK hP hD hS hA rfl rfl hl.1 (Nat.le_of_ble_eq_true rfl) dL_cars_107 rfl ⟨Nat.le_of_ble_eq_true rfl, Nat.le_of_ble_eq_true rfl⟩ (fun qwa qgi qlo qtu H locs hP hD hS => ?_)
  refine lv_if_ne (tgt := 254) hx hb dL_cars_110 (by decide) (fun c => absurd (by decide) c) (fun _ => ?_)
  refine lv_aload_n hx hb dL_cars_113 rfl (lv_at hl 0 rfl) ?_
  refine lv_iconst (v := 1) hx hb dL_cars_114 (by decide) ?_
  refine lk_park (rest := []) (As := [.int 1]) (v := 0) hC (c_X0_reach l dC dI cI cZ h a uc_a3 uc_a4 uc_a12 uc_a10 uc_a11 uF0 2 100 0 1 18 0 qwa qgi qlo qtu 2 1 (by decide +kernel) (by decide) uc_e40) uc_e41 (cwV 1 hts gL_cars_X0_reach rfl rfl rfl hd_X0_reach ⟨Nat.le_of_ble_eq_true rfl, Nat.le_of_ble_eq_true rfl⟩) hK hP hD hS hA rfl rfl hl.1 (Nat.le_of_ble_eq_true rfl) dL_cars_115 rfl ⟨Nat.le_of_ble_eq_true rfl, Nat.le_of_ble_eq_true rfl⟩ (fun qwa qgi qlo qtu H locs hP hD hS => ?_)
  refine lv_if_ne (tgt := 254) hx hb dL_cars_118 (by decide) (fun c => absurd (by decide) c) (fun _ => ?_)
  refine lv_aload_n hx hb dL_cars_121 rfl (lv_at hl 0 rfl) ?_
  refine lv_iconst (v := 1) hx hb dL_cars_122 (by decide) ?_
  refine lk_park (rest := []) (As := [.int 1]) (v := 0) hC (c_X0_laxity l dC dI cI cZ h a uc_a3 uc_a4 uc_a12 uc_a10 uc_a11 uF0 2 100 0 1 18 0 qwa qgi qlo qtu 2 1 (by decide +kernel) (by decide) uc_e42) uc_e43 (cwV 1 hts gL_cars_X0_laxity rfl rfl rfl hd_X0_laxity ⟨Nat.le_of_ble_eq_true rfl, Nat.le_of_ble_eq_true rfl⟩) hK hP hD hS hA rfl rfl hl.1 (Nat.le_of_ble_eq_true rfl) dL_cars_123 rfl ⟨Nat.le_of_ble_eq_true rfl, Nat.le_of_ble_eq_true rfl⟩ (fun qwa qgi qlo qtu H locs hP hD hS => ?_)
  refine lv_if_ne (tgt := 254) hx hb dL_cars_126 (by decide) (fun c => absurd (by decide) c) (fun _ => ?_)
  refine lv_aload_n hx hb dL_cars_129 rfl (lv_at hl 0 rfl) ?_
  refine lk_park (rest := []) (As := []) (v := 1) hC (c_X0_canBeReady l dC dI cI cZ h a uc_a3 uc_a4 uc_a12 uc_a10 uc_a11 uF0 2 100 0 1 18 0 qwa qgi qlo qtu 2 (by decide +kernel) (by decide)) uc_e44 (cwV 0 hts gL_cars_X0_canBeReady rfl rfl rfl hd_X0_canBeReady ⟨Nat.le_of_ble_eq_true rfl, Nat.le_of_ble_eq_true rfl⟩) hK hP hD hS hA rfl rfl hl.1 (Nat.le_of_ble_eq_true rfl) dL_cars_130 rfl ⟨Nat.le_of_ble_eq_true rfl, Nat.le_of_ble_eq_true rfl⟩ (fun qwa qgi qlo qtu H locs hP hD hS => ?_)
  refine lv_if_eq (tgt := 254) hx hb dL_cars_133 (by decide) (fun c => absurd c (by decide)) (fun _ => ?_)
  refine lv_aload_n hx hb dL_cars_136 rfl (lv_at hl 0 rfl) ?_
  refine lv_iconst (v := 0) hx hb dL_cars_137 (by decide) ?_
  refine lk_park (rest := []) (As := [.int 0]) (v := 2) hC (c_X0_reach l dC dI cI cZ h a uc_a3 uc_a4 uc_a12 uc_a10 uc_a11 uF0 2 100 0 1 18 0 qwa qgi qlo qtu 2 0 (by decide +kernel) (by decide) uc_e45) uc_e46 (cwV 1 hts gL_cars_X0_reach rfl rfl rfl hd_X0_reach ⟨Nat.le_of_ble_eq_true rfl, Nat.le_of_ble_eq_true rfl⟩) hK hP hD hS hA rfl rfl hl.1 (Nat.le_of_ble_eq_true rfl) dL_cars_138 rfl ⟨Nat.le_of_ble_eq_true rfl, Nat.le_of_ble_eq_true rfl⟩ (fun qwa qgi qlo qtu H locs hP hD hS => ?_)
  refine lv_iconst (v := 2) hx hb dL_cars_141 (by decide) ?_
  refine lv_icmp_ne (tgt := 254) hx hb dL_cars_142 (by decide) (fun c => absurd (by decide) c) (fun _ => ?_)
  refine lv_aload_n hx hb dL_cars_145 rfl (lv_at hl 0 rfl) ?_
  refine lv_iconst (v := 0) hx hb dL_cars_146 (by decide) ?_
  refine lk_park (rest := []) (As := [.int 0]) (v := 2) hC (c_X0_load l dC dI cI cZ h a uc_a3 uc_a4 uc_a12 uc_a10 uc_a11 uF0 2 100 0 1 18 0 qwa qgi qlo qtu 2 0 (by decide +kernel) (by decide) uc_e47) (uc_e49 _ _ _ _) (cwV 1 hts gL_cars_X0_load rfl rfl rfl hd_X0_load ⟨Nat.le_of_ble_eq_true rfl, Nat.le_of_ble_eq_true rfl⟩) hK hP hD hS hA rfl rfl hl.1 (Nat.le_of_ble_eq_true rfl) dL_cars_147 rfl ⟨Nat.le_of_ble_eq_true rfl, Nat.le_of_ble_eq_true rfl⟩ (fun qwa qgi qlo qtu H locs hP hD hS => ?_)
  refine lv_iconst (v := 2) hx hb dL_cars_150 (by decide) ?_
  refine lv_icmp_ne (tgt := 254) hx hb dL_cars_151 (by decide) (fun c => absurd (by decide) c) (fun _ => ?_)
  refine lv_aload_n hx hb dL_cars_154 rfl (lv_at hl 0 rfl) ?_
  refine lv_iconst (v := 0) hx hb dL_cars_155 (by decide) ?_
  refine lv_iconst (v := 1) hx hb dL_cars_156 (by decide) ?_
  refine lk_park (rest := []) (As := [.int 0, .int 1]) (v := 5) hC (c_X0_appetite l dC dI cI cZ h a uc_a3 uc_a4 uc_a12 uc_a10 uc_a11 uF0 2 100 0 1 18 0 qwa qgi qlo qtu 2 0 1 (by decide +kernel) (by decide) uc_e50) uc_e51 (cwV 2 hts gL_cars_X0_appetite rfl rfl rfl hd_X0_appetite ⟨Nat.le_of_ble_eq_true rfl, Nat.le_of_ble_eq_true rfl⟩) hK hP hD hS hA rfl rfl hl.1 (Nat.le_of_ble_eq_true rfl) dL_cars_157 rfl ⟨Nat.le_of_ble_eq_true rfl, Nat.le_of_ble_eq_true rfl⟩ (fun qwa qgi qlo qtu H locs hP hD hS => ?_)
  rw [uc_e52] at hP hD
  refine lv_iconst (v := 5) hx hb dL_cars_160 (by decide) ?_
  refine lv_icmp_ne (tgt := 254) hx hb dL_cars_161 (by decide) (fun c => absurd (by decide) c) (fun _ => ?_)
  refine lv_aload_n hx hb dL_cars_164 rfl (lv_at hl 0 rfl) ?_
  refine lv_iconst (v := 0) hx hb dL_cars_165 (by decide) ?_
  refine lk_park (rest := []) (As := [.int 0]) (v := 1) hC (c_X0_reach l dC dI cI cZ h a uc_a3 uc_a4 uc_a12 uc_a13 uc_a11 uF0 2 100 0 1 18 0 qwa qgi qlo qtu 2 0 (by decide +kernel) (by decide) uc_e53) uc_e54 (cwV 1 hts gL_cars_X0_reach rfl rfl rfl hd_X0_reach ⟨Nat.le_of_ble_eq_true rfl, Nat.le_of_ble_eq_true rfl⟩) hK hP hD hS hA rfl rfl hl.1 (Nat.le_of_ble_eq_true rfl) dL_cars_166 rfl ⟨Nat.le_of_ble_eq_true rfl, Nat.le_of_ble_eq_true rfl⟩ (fun qwa qgi qlo qtu H locs hP hD hS => ?_)
  refine lv_iconst (v := 1) hx hb dL_cars_169 (by decide) ?_
  refine lv_icmp_ne (tgt := 254) hx hb dL_cars_170 (by decide) (fun c => absurd (by decide) c) (fun _ => ?_)
  refine lv_aload_n hx hb dL_cars_173 rfl (lv_at hl 0 rfl) ?_
  refine lv_iconst (v := 0) hx hb dL_cars_174 (by decide) ?_
  refine lk_park (rest := []) (As := [.int 0]) (v := (-1)) hC (c_X0_laxity l dC dI cI cZ h a uc_a3 uc_a4 uc_a12 uc_a13 uc_a11 uF0 2 100 0 1 18 0 qwa qgi qlo qtu 2 0 (by decide +kernel) (by decide) uc_e55) uc_e56 (cwV 1 hts gL_cars_X0_laxity rfl rfl rfl hd_X0_laxity ⟨Nat.le_of_ble_eq_true rfl, Nat.le_of_ble_eq_true rfl⟩) hK hP hD hS hA rfl rfl hl.1 (Nat.le_of_ble_eq_true rfl) dL_cars_175 rfl ⟨Nat.le_of_ble_eq_true rfl, Nat.le_of_ble_eq_true rfl⟩ (fun qwa qgi qlo qtu H locs hP hD hS => ?_)
  refine lv_iconst (v := (-1)) hx hb dL_cars_178 (by decide) ?_
  refine lv_icmp_ne (tgt := 254) hx hb dL_cars_179 (by decide) (fun c => absurd (by decide) c) (fun _ => ?_)
  refine lv_aload_n hx hb dL_cars_182 rfl (lv_at hl 0 rfl) ?_
  refine lk_park (rest := []) (As := []) (v := 0) hC (c_X0_canBeReady l dC dI cI cZ h a uc_a3 uc_a4 uc_a12 uc_a13 uc_a11 uF0 2 100 0 1 18 0 qwa qgi qlo qtu 2 (by decide +kernel) (by decide)) uc_e57 (cwV 0 hts gL_cars_X0_canBeReady rfl rfl rfl hd_X0_canBeReady ⟨Nat.le_of_ble_eq_true rfl, Nat.le_of_ble_eq_true rfl⟩) hK hP hD hS hA rfl rfl hl.1 (Nat.le_of_ble_eq_true rfl) dL_cars_183 rfl ⟨Nat.le_of_ble_eq_true rfl, Nat.le_of_ble_eq_true rfl⟩ (fun qwa qgi qlo qtu H locs hP hD hS => ?_)
  refine lv_if_ne (tgt := 254) hx hb dL_cars_186 (by decide) (fun c => absurd (by decide) c) (fun _ => ?_)
  refine lv_aload_n hx hb dL_cars_189 rfl (lv_at hl 0 rfl) ?_
  refine lv_iconst (v := 1) hx hb dL_cars_190 (by decide) ?_
  refine lk_park (rest := []) (As := [.int 1]) (v := 3) hC (c_X0_step l dC dI cI cZ h a uc_a3 uc_a4 uc_a12 uc_a13 uc_a11 uF0 2 100 0 1 18 0 qwa qgi qlo qtu 2 1 (by decide +kernel) (by decide) uc_e58) (uc_e60 _ _ _ _) (cwV 1 hts gL_cars_X0_step rfl rfl rfl hd_X0_step ⟨Nat.le_of_ble_eq_true rfl, Nat.le_of_ble_eq_true rfl⟩) hK hP hD hS hA rfl rfl hl.1 (Nat.le_of_ble_eq_true rfl) dL_cars_191 rfl ⟨Nat.le_of_ble_eq_true rfl, Nat.le_of_ble_eq_true rfl⟩ (fun qwa qgi qlo qtu H locs hP hD hS => ?_)
  rw [uc_e62, uc_e63, uc_e64] at hP hD
  refine lv_iconst (v := 3) hx hb dL_cars_194 (by decide) ?_
  refine lv_icmp_ne (tgt := 254) hx hb dL_cars_195 (by decide) (fun c => absurd (by decide) c) (fun _ => ?_)
  refine lv_aload_n hx hb dL_cars_198 rfl (lv_at hl 0 rfl) ?_
  refine lv_iconst (v := 0) hx hb dL_cars_199 (by decide) ?_
  refine lk_park (rest := []) (As := [.int 0]) (v := 2) hC (c_X0_need l dC dI cI cZ h a uc_a3 uc_a4 uc_a14 uc_a13 uc_a11 uF0 2 100 0 2 21 0 qwa qgi qlo qtu 2 0 (by decide +kernel) (by decide) uc_e65) uc_e66 (cwV 1 hts gL_cars_X0_need rfl rfl rfl hd_X0_need ⟨Nat.le_of_ble_eq_true rfl, Nat.le_of_ble_eq_true rfl⟩) hK hP hD hS hA rfl rfl hl.1 (Nat.le_of_ble_eq_true rfl) dL_cars_200 rfl ⟨Nat.le_of_ble_eq_true rfl, Nat.le_of_ble_eq_true rfl⟩ (fun qwa qgi qlo qtu H locs hP hD hS => ?_)
  refine lv_iconst (v := 2) hx hb dL_cars_203 (by decide) ?_
  refine lv_icmp_ne (tgt := 254) hx hb dL_cars_204 (by decide) (fun c => absurd (by decide) c) (fun _ => ?_)
  refine lv_aload_n hx hb dL_cars_207 rfl (lv_at hl 0 rfl) ?_
  refine lv_iconst (v := 0) hx hb dL_cars_208 (by decide) ?_
  refine lk_park (rest := []) (As := [.int 0]) (v := 0) hC (c_X0_left l dC dI cI cZ h a uc_a3 uc_a4 uc_a14 uc_a13 uc_a11 uF0 2 100 0 2 21 0 qwa qgi qlo qtu 2 0 (by decide +kernel) (by decide) uc_e67) uc_e68 (cwV 1 hts gL_cars_X0_left rfl rfl rfl hd_X0_left ⟨Nat.le_of_ble_eq_true rfl, Nat.le_of_ble_eq_true rfl⟩) hK hP hD hS hA rfl rfl hl.1 (Nat.le_of_ble_eq_true rfl) dL_cars_209 rfl ⟨Nat.le_of_ble_eq_true rfl, Nat.le_of_ble_eq_true rfl⟩ (fun qwa qgi qlo qtu H locs hP hD hS => ?_)
  refine lv_if_ne (tgt := 254) hx hb dL_cars_212 (by decide) (fun c => absurd (by decide) c) (fun _ => ?_)
  refine lv_aload_n hx hb dL_cars_215 rfl (lv_at hl 0 rfl) ?_
  refine lv_iconst (v := 0) hx hb dL_cars_216 (by decide) ?_
  refine lk_park (rest := []) (As := [.int 0]) (v := (-1)) hC (c_X0_laxity l dC dI cI cZ h a uc_a3 uc_a4 uc_a14 uc_a13 uc_a11 uF0 2 100 0 2 21 0 qwa qgi qlo qtu 2 0 (by decide +kernel) (by decide) uc_e69) uc_e70 (cwV 1 hts gL_cars_X0_laxity rfl rfl rfl hd_X0_laxity ⟨Nat.le_of_ble_eq_true rfl, Nat.le_of_ble_eq_true rfl⟩) hK hP hD hS hA rfl rfl hl.1 (Nat.le_of_ble_eq_true rfl) dL_cars_217 rfl ⟨Nat.le_of_ble_eq_true rfl, Nat.le_of_ble_eq_true rfl⟩ (fun qwa qgi qlo qtu H locs hP hD hS => ?_)
  refine lv_iconst (v := (-1)) hx hb dL_cars_220 (by decide) ?_
  refine lv_icmp_ne (tgt := 254) hx hb dL_cars_221 (by decide) (fun c => absurd (by decide) c) (fun _ => ?_)
  refine lv_aload_n hx hb dL_cars_224 rfl (lv_at hl 0 rfl) ?_
  refine lv_iconst (v := 0) hx hb dL_cars_225 (by decide) ?_
  refine lk_park (rest := []) (As := [.int 0]) (v := 0) hC (c_X0_reach l dC dI cI cZ h a uc_a3 uc_a4 uc_a14 uc_a13 uc_a11 uF0 2 100 0 2 21 0 qwa qgi qlo qtu 2 0 (by decide +kernel) (by decide) uc_e71) uc_e72 (cwV 1 hts gL_cars_X0_reach rfl rfl rfl hd_X0_reach ⟨Nat.le_of_ble_eq_true rfl, Nat.le_of_ble_eq_true rfl⟩) hK hP hD hS hA rfl rfl hl.1 (Nat.le_of_ble_eq_true rfl) dL_cars_226 rfl ⟨Nat.le_of_ble_eq_true rfl, Nat.le_of_ble_eq_true rfl⟩ (fun qwa qgi qlo qtu H locs hP hD hS => ?_)
  refine lv_if_ne (tgt := 254) hx hb dL_cars_229 (by decide) (fun c => absurd (by decide) c) (fun _ => ?_)
  refine lv_aload_n hx hb dL_cars_232 rfl (lv_at hl 0 rfl) ?_
  refine lv_iconst (v := 5) hx hb dL_cars_233 (by decide) ?_
  refine lk_park (rest := []) (As := [.int 5]) (v := 0) hC (c_X0_step l dC dI cI cZ h a uc_a3 uc_a4 uc_a14 uc_a13 uc_a11 uF0 2 100 0 2 21 0 qwa qgi qlo qtu 2 5 (by decide +kernel) (by decide) uc_e73) (uc_e75 _ _ _ _) (cwV 1 hts gL_cars_X0_step rfl rfl rfl hd_X0_step ⟨Nat.le_of_ble_eq_true rfl, Nat.le_of_ble_eq_true rfl⟩) hK hP hD hS hA rfl rfl hl.1 (Nat.le_of_ble_eq_true rfl) dL_cars_234 rfl ⟨Nat.le_of_ble_eq_true rfl, Nat.le_of_ble_eq_true rfl⟩ (fun qwa qgi qlo qtu H locs hP hD hS => ?_)
  rw [uc_e77, uc_e78, uc_e79] at hP hD
  refine lv_if_ne (tgt := 254) hx hb dL_cars_237 (by decide) (fun c => absurd (by decide) c) (fun _ => ?_)
  refine lv_aload_n hx hb dL_cars_240 rfl (lv_at hl 0 rfl) ?_
  refine lk_park (rest := []) (As := []) (v := 0) hC (c_X0_held l dC dI cI cZ h a uc_a3 uc_a4 uc_a14 uc_a13 uc_a11 uF0 2 100 0 7 21 0 qwa qgi qlo qtu 2 (by decide +kernel) (by decide)) (uc_e81 _ _ _ _) (cwV 0 hts gL_cars_X0_held rfl rfl rfl hd_X0_held ⟨Nat.le_of_ble_eq_true rfl, Nat.le_of_ble_eq_true rfl⟩) hK hP hD hS hA rfl rfl hl.1 (Nat.le_of_ble_eq_true rfl) dL_cars_241 rfl ⟨Nat.le_of_ble_eq_true rfl, Nat.le_of_ble_eq_true rfl⟩ (fun qwa qgi qlo qtu H locs hP hD hS => ?_)
  refine lv_if_ne (tgt := 254) hx hb dL_cars_244 (by decide) (fun c => absurd (by decide) c) (fun _ => ?_)
  refine lv_aload_n hx hb dL_cars_247 rfl (lv_at hl 0 rfl) ?_
  refine lk_park (rest := []) (As := []) (v := 0) hC (c_X0_canBeReady l dC dI cI cZ h a uc_a3 uc_a4 uc_a14 uc_a13 uc_a11 uF0 2 100 0 7 21 0 qwa qgi qlo qtu 2 (by decide +kernel) (by decide)) uc_e82 (cwV 0 hts gL_cars_X0_canBeReady rfl rfl rfl hd_X0_canBeReady ⟨Nat.le_of_ble_eq_true rfl, Nat.le_of_ble_eq_true rfl⟩) hK hP hD hS hA rfl rfl hl.1 (Nat.le_of_ble_eq_true rfl) dL_cars_248 rfl ⟨Nat.le_of_ble_eq_true rfl, Nat.le_of_ble_eq_true rfl⟩ (fun qwa qgi qlo qtu H locs hP hD hS => ?_)
  refine lv_if_eq (tgt := 256) hx hb dL_cars_251 (by decide) (fun _ => ?_) (fun c => absurd (by decide) c)
  refine lv_aload_n hx hb dL_cars_256 rfl (lv_at hl 0 rfl) ?_
  refine lv_iconst (v := 0) hx hb dL_cars_257 (by decide) ?_
  refine lv_iconst (v := 4) hx hb dL_cars_258 (by decide) ?_
  refine lk_park (rest := []) (As := [.int 0, .int 4]) (v := 4) hC (c_X0_stay l dC dI cI cZ h a uc_a3 uc_a4 uc_a14 uc_a13 uc_a11 uF0 2 100 0 7 21 0 qwa qgi qlo qtu 2 0 4 (by decide +kernel) (by decide) uc_e83) uc_e84 (cwV 2 hts gL_cars_X0_stay rfl rfl rfl hd_X0_stay ⟨Nat.le_of_ble_eq_true rfl, Nat.le_of_ble_eq_true rfl⟩) hK hP hD hS hA rfl rfl hl.1 (Nat.le_of_ble_eq_true rfl) dL_cars_259 rfl ⟨Nat.le_of_ble_eq_true rfl, Nat.le_of_ble_eq_true rfl⟩ (fun qwa qgi qlo qtu H locs hP hD hS => ?_)
  rw [uc_e85] at hP hD
  refine lv_iconst (v := 4) hx hb dL_cars_262 (by decide) ?_
  refine lv_icmp_ne (tgt := 448) hx hb dL_cars_263 (by decide) (fun c => absurd (by decide) c) (fun _ => ?_)
  refine lv_aload_n hx hb dL_cars_266 rfl (lv_at hl 0 rfl) ?_
  refine lv_iconst (v := 0) hx hb dL_cars_267 (by decide) ?_
  refine lk_park (rest := []) (As := [.int 0]) (v := 4) hC (c_X0_left l dC dI cI cZ h a uc_a3 uc_a4 uc_a14 uc_a13 uc_a15 uF0 2 100 0 7 21 0 qwa qgi qlo qtu 2 0 (by decide +kernel) (by decide) uc_e86) uc_e87 (cwV 1 hts gL_cars_X0_left rfl rfl rfl hd_X0_left ⟨Nat.le_of_ble_eq_true rfl, Nat.le_of_ble_eq_true rfl⟩) hK hP hD hS hA rfl rfl hl.1 (Nat.le_of_ble_eq_true rfl) dL_cars_268 rfl ⟨Nat.le_of_ble_eq_true rfl, Nat.le_of_ble_eq_true rfl⟩ (fun qwa qgi qlo qtu H locs hP hD hS => ?_)
  refine lv_iconst (v := 4) hx hb dL_cars_271 (by decide) ?_
  refine lv_icmp_ne (tgt := 448) hx hb dL_cars_272 (by decide) (fun c => absurd (by decide) c) (fun _ => ?_)
  refine lv_aload_n hx hb dL_cars_275 rfl (lv_at hl 0 rfl) ?_
  refine lv_iconst (v := 0) hx hb dL_cars_276 (by decide) ?_
  refine lk_park (rest := []) (As := [.int 0]) (v := 3) hC (c_X0_laxity l dC dI cI cZ h a uc_a3 uc_a4 uc_a14 uc_a13 uc_a15 uF0 2 100 0 7 21 0 qwa qgi qlo qtu 2 0 (by decide +kernel) (by decide) uc_e88) uc_e89 (cwV 1 hts gL_cars_X0_laxity rfl rfl rfl hd_X0_laxity ⟨Nat.le_of_ble_eq_true rfl, Nat.le_of_ble_eq_true rfl⟩) hK hP hD hS hA rfl rfl hl.1 (Nat.le_of_ble_eq_true rfl) dL_cars_277 rfl ⟨Nat.le_of_ble_eq_true rfl, Nat.le_of_ble_eq_true rfl⟩ (fun qwa qgi qlo qtu H locs hP hD hS => ?_)
  refine lv_iconst (v := 3) hx hb dL_cars_280 (by decide) ?_
  refine lv_icmp_ne (tgt := 448) hx hb dL_cars_281 (by decide) (fun c => absurd (by decide) c) (fun _ => ?_)
  refine lv_aload_n hx hb dL_cars_284 rfl (lv_at hl 0 rfl) ?_
  refine lk_park (rest := []) (As := []) (v := 1) hC (c_X0_canBeReady l dC dI cI cZ h a uc_a3 uc_a4 uc_a14 uc_a13 uc_a15 uF0 2 100 0 7 21 0 qwa qgi qlo qtu 2 (by decide +kernel) (by decide)) uc_e90 (cwV 0 hts gL_cars_X0_canBeReady rfl rfl rfl hd_X0_canBeReady ⟨Nat.le_of_ble_eq_true rfl, Nat.le_of_ble_eq_true rfl⟩) hK hP hD hS hA rfl rfl hl.1 (Nat.le_of_ble_eq_true rfl) dL_cars_285 rfl ⟨Nat.le_of_ble_eq_true rfl, Nat.le_of_ble_eq_true rfl⟩ (fun qwa qgi qlo qtu H locs hP hD hS => ?_)
  refine lv_if_eq (tgt := 448) hx hb dL_cars_288 (by decide) (fun c => absurd c (by decide)) (fun _ => ?_)
  refine lv_aload_n hx hb dL_cars_291 rfl (lv_at hl 0 rfl) ?_
  refine lv_iconst (v := 0) hx hb dL_cars_292 (by decide) ?_
  refine lv_sipush (v := 500) hx hb dL_cars_293 (by decide) ?_
  refine lk_park (rest := []) (As := [.int 0, .int 500]) (v := 504) hC (c_X0_stay l dC dI cI cZ h a uc_a3 uc_a4 uc_a14 uc_a13 uc_a15 uF0 2 100 0 7 21 0 qwa qgi qlo qtu 2 0 500 (by decide +kernel) (by decide) uc_e91) uc_e92 (cwV 2 hts gL_cars_X0_stay rfl rfl rfl hd_X0_stay ⟨Nat.le_of_ble_eq_true rfl, Nat.le_of_ble_eq_true rfl⟩) hK hP hD hS hA rfl rfl hl.1 (Nat.le_of_ble_eq_true rfl) dL_cars_296 rfl ⟨Nat.le_of_ble_eq_true rfl, Nat.le_of_ble_eq_true rfl⟩ (fun qwa qgi qlo qtu H locs hP hD hS => ?_)
  rw [uc_e93] at hP hD
  refine lv_sipush (v := 504) hx hb dL_cars_299 (by decide) ?_
  refine lv_icmp_ne (tgt := 448) hx hb dL_cars_302 (by decide) (fun c => absurd (by decide) c) (fun _ => ?_)
  refine lv_aload_n hx hb dL_cars_305 rfl (lv_at hl 0 rfl) ?_
  refine lv_iconst (v := 0) hx hb dL_cars_306 (by decide) ?_
  refine lk_park (rest := []) (As := [.int 0]) (v := 1) hC (c_X0_current l dC dI cI cZ h a uc_a3 uc_a4 uc_a14 uc_a13 uc_a16 uF0 2 100 0 7 21 0 qwa qgi qlo qtu 2 0 (by decide +kernel) (by decide) uc_e94) (uc_e96 _ _ _ _) (cwV 1 hts gL_cars_X0_current rfl rfl rfl hd_X0_current ⟨Nat.le_of_ble_eq_true rfl, Nat.le_of_ble_eq_true rfl⟩) hK hP hD hS hA rfl rfl hl.1 (Nat.le_of_ble_eq_true rfl) dL_cars_307 rfl ⟨Nat.le_of_ble_eq_true rfl, Nat.le_of_ble_eq_true rfl⟩ (fun qwa qgi qlo qtu H locs hP hD hS => ?_)
  refine lv_iconst (v := 1) hx hb dL_cars_310 (by decide) ?_
  refine lv_icmp_ne (tgt := 448) hx hb dL_cars_311 (by decide) (fun c => absurd (by decide) c) (fun _ => ?_)
  refine lv_aload_n hx hb dL_cars_314 rfl (lv_at hl 0 rfl) ?_
  refine lv_iconst (v := 1) hx hb dL_cars_315 (by decide) ?_
  refine lk_park (rest := []) (As := [.int 1]) (v := 2) hC (c_X0_step l dC dI cI cZ h a uc_a3 uc_a4 uc_a14 uc_a13 uc_a16 uF0 2 100 0 7 21 0 qwa qgi qlo qtu 2 1 (by decide +kernel) (by decide) uc_e97) (uc_e98 _ _ _ _) (cwV 1 hts gL_cars_X0_step rfl rfl rfl hd_X0_step ⟨Nat.le_of_ble_eq_true rfl, Nat.le_of_ble_eq_true rfl⟩) hK hP hD hS hA rfl rfl hl.1 (Nat.le_of_ble_eq_true rfl) dL_cars_316 rfl ⟨Nat.le_of_ble_eq_true rfl, Nat.le_of_ble_eq_true rfl⟩ (fun qwa qgi qlo qtu H locs hP hD hS => ?_)
  rw [uc_e100, uc_e101, uc_e102] at hP hD
  refine lv_iconst (v := 2) hx hb dL_cars_319 (by decide) ?_
  refine lv_icmp_ne (tgt := 448) hx hb dL_cars_320 (by decide) (fun c => absurd (by decide) c) (fun _ => ?_)
  refine lv_aload_n hx hb dL_cars_323 rfl (lv_at hl 0 rfl) ?_
  refine lv_iconst (v := 0) hx hb dL_cars_324 (by decide) ?_
  refine lk_park (rest := []) (As := [.int 0]) (v := 0) hC (c_X0_need l dC dI cI cZ h a uc_a3 uc_a4 uc_a17 uc_a13 uc_a16 uF0 2 100 0 8 23 0 qwa qgi qlo qtu 2 0 (by decide +kernel) (by decide) uc_e103) uc_e104 (cwV 1 hts gL_cars_X0_need rfl rfl rfl hd_X0_need ⟨Nat.le_of_ble_eq_true rfl, Nat.le_of_ble_eq_true rfl⟩) hK hP hD hS hA rfl rfl hl.1 (Nat.le_of_ble_eq_true rfl) dL_cars_325 rfl ⟨Nat.le_of_ble_eq_true rfl, Nat.le_of_ble_eq_true rfl⟩ (fun qwa qgi qlo qtu H locs hP hD hS => ?_)
  refine lv_if_ne (tgt := 448) hx hb dL_cars_328 (by decide) (fun c => absurd (by decide) c) (fun _ => ?_)
  refine lv_aload_n hx hb dL_cars_331 rfl (lv_at hl 0 rfl) ?_
  refine lv_iconst (v := 0) hx hb dL_cars_332 (by decide) ?_
  refine lk_park (rest := []) (As := [.int 0]) (v := 0) hC (c_X0_current l dC dI cI cZ h a uc_a3 uc_a4 uc_a17 uc_a13 uc_a16 uF0 2 100 0 8 23 0 qwa qgi qlo qtu 2 0 (by decide +kernel) (by decide) uc_e105) (uc_e107 _ _ _ _) (cwV 1 hts gL_cars_X0_current rfl rfl rfl hd_X0_current ⟨Nat.le_of_ble_eq_true rfl, Nat.le_of_ble_eq_true rfl⟩) hK hP hD hS hA rfl rfl hl.1 (Nat.le_of_ble_eq_true rfl) dL_cars_333 rfl ⟨Nat.le_of_ble_eq_true rfl, Nat.le_of_ble_eq_true rfl⟩ (fun qwa qgi qlo qtu H locs hP hD hS => ?_)
  refine lv_if_ne (tgt := 448) hx hb dL_cars_336 (by decide) (fun c => absurd (by decide) c) (fun _ => ?_)
  refine lv_aload_n hx hb dL_cars_339 rfl (lv_at hl 0 rfl) ?_
  refine lv_iconst (v := 0) hx hb dL_cars_340 (by decide) ?_
  refine lk_park (rest := []) (As := [.int 0]) (v := 503) hC (c_X0_laxity l dC dI cI cZ h a uc_a3 uc_a4 uc_a17 uc_a13 uc_a16 uF0 2 100 0 8 23 0 qwa qgi qlo qtu 2 0 (by decide +kernel) (by decide) uc_e108) uc_e109 (cwV 1 hts gL_cars_X0_laxity rfl rfl rfl hd_X0_laxity ⟨Nat.le_of_ble_eq_true rfl, Nat.le_of_ble_eq_true rfl⟩) hK hP hD hS hA rfl rfl hl.1 (Nat.le_of_ble_eq_true rfl) dL_cars_341 rfl ⟨Nat.le_of_ble_eq_true rfl, Nat.le_of_ble_eq_true rfl⟩ (fun qwa qgi qlo qtu H locs hP hD hS => ?_)
  refine lv_sipush (v := 503) hx hb dL_cars_344 (by decide) ?_
  refine lv_icmp_ne (tgt := 448) hx hb dL_cars_347 (by decide) (fun c => absurd (by decide) c) (fun _ => ?_)
  refine lv_aload_n hx hb dL_cars_350 rfl (lv_at hl 0 rfl) ?_
  refine lv_iconst (v := 0) hx hb dL_cars_351 (by decide) ?_
  refine lk_park (rest := []) (As := [.int 0]) (v := 0) hC (c_X0_takeOut l dC dI cI cZ h a uc_a3 uc_a4 uc_a17 uc_a13 uc_a16 uF0 2 100 0 8 23 0 qwa qgi qlo qtu 2 0 (by decide +kernel) (by decide) uc_e110) uc_e111 (cwV 1 hts gL_cars_X0_takeOut rfl rfl rfl hd_X0_takeOut ⟨Nat.le_of_ble_eq_true rfl, Nat.le_of_ble_eq_true rfl⟩) hK hP hD hS hA rfl rfl hl.1 (Nat.le_of_ble_eq_true rfl) dL_cars_352 rfl ⟨Nat.le_of_ble_eq_true rfl, Nat.le_of_ble_eq_true rfl⟩ (fun qwa qgi qlo qtu H locs hP hD hS => ?_)
  rw [uc_e112, uc_e113] at hP hD
  refine lv_if_ne (tgt := 448) hx hb dL_cars_355 (by decide) (fun c => absurd (by decide) c) (fun _ => ?_)
  refine lv_aload_n hx hb dL_cars_358 rfl (lv_at hl 0 rfl) ?_
  refine lk_park (rest := []) (As := []) (v := 1) hC (c_X0_served l dC dI cI cZ h a uc_a3 uc_a4 uc_a18 uc_a13 uc_a16 uF0 2 100 0 8 23 1 qwa qgi qlo qtu) uc_e114 (cwV 0 hts gL_cars_X0_served rfl rfl rfl hd_X0_served ⟨Nat.le_of_ble_eq_true rfl, Nat.le_of_ble_eq_true rfl⟩) hK hP hD hS hA rfl rfl hl.1 (Nat.le_of_ble_eq_true rfl) dL_cars_359 rfl ⟨Nat.le_of_ble_eq_true rfl, Nat.le_of_ble_eq_true rfl⟩ (fun qwa qgi qlo qtu H locs hP hD hS => ?_)
  refine lv_iconst (v := 1) hx hb dL_cars_362 (by decide) ?_
  refine lv_icmp_ne (tgt := 448) hx hb dL_cars_363 (by decide) (fun c => absurd (by decide) c) (fun _ => ?_)
  refine lv_aload_n hx hb dL_cars_366 rfl (lv_at hl 0 rfl) ?_
  refine lv_iconst (v := 0) hx hb dL_cars_367 (by decide) ?_
  refine lk_park (rest := []) (As := [.int 0]) (v := (-1)) hC (c_X0_need l dC dI cI cZ h a uc_a3 uc_a4 uc_a18 uc_a13 uc_a16 uF0 2 100 0 8 23 1 qwa qgi qlo qtu 2 0 (by decide +kernel) (by decide) uc_e115) uc_e116 (cwV 1 hts gL_cars_X0_need rfl rfl rfl hd_X0_need ⟨Nat.le_of_ble_eq_true rfl, Nat.le_of_ble_eq_true rfl⟩) hK hP hD hS hA rfl rfl hl.1 (Nat.le_of_ble_eq_true rfl) dL_cars_368 rfl ⟨Nat.le_of_ble_eq_true rfl, Nat.le_of_ble_eq_true rfl⟩ (fun qwa qgi qlo qtu H locs hP hD hS => ?_)
  refine lv_iconst (v := (-1)) hx hb dL_cars_371 (by decide) ?_
  refine lv_icmp_ne (tgt := 448) hx hb dL_cars_372 (by decide) (fun c => absurd (by decide) c) (fun _ => ?_)
  refine lv_aload_n hx hb dL_cars_375 rfl (lv_at hl 0 rfl) ?_
  refine lv_iconst (v := 1) hx hb dL_cars_376 (by decide) ?_
  refine lk_park (rest := []) (As := [.int 1]) (v := 0) hC (c_X0_takeOut l dC dI cI cZ h a uc_a3 uc_a4 uc_a18 uc_a13 uc_a16 uF0 2 100 0 8 23 1 qwa qgi qlo qtu 2 1 (by decide +kernel) (by decide) uc_e117) uc_e118 (cwV 1 hts gL_cars_X0_takeOut rfl rfl rfl hd_X0_takeOut ⟨Nat.le_of_ble_eq_true rfl, Nat.le_of_ble_eq_true rfl⟩) hK hP hD hS hA rfl rfl hl.1 (Nat.le_of_ble_eq_true rfl) dL_cars_377 rfl ⟨Nat.le_of_ble_eq_true rfl, Nat.le_of_ble_eq_true rfl⟩ (fun qwa qgi qlo qtu H locs hP hD hS => ?_)
  rw [uc_e119, uc_e120] at hP hD
  refine lv_if_ne (tgt := 448) hx hb dL_cars_380 (by decide) (fun c => absurd (by decide) c) (fun _ => ?_)
  refine lv_aload_n hx hb dL_cars_383 rfl (lv_at hl 0 rfl) ?_
  refine lk_park (rest := []) (As := []) (v := 2) hC (c_X0_served l dC dI cI cZ h a uc_a3 uc_a4 uc_a19 uc_a13 uc_a16 uF0 2 100 0 8 23 2 qwa qgi qlo qtu) uc_e121 (cwV 0 hts gL_cars_X0_served rfl rfl rfl hd_X0_served ⟨Nat.le_of_ble_eq_true rfl, Nat.le_of_ble_eq_true rfl⟩) hK hP hD hS hA rfl rfl hl.1 (Nat.le_of_ble_eq_true rfl) dL_cars_384 rfl ⟨Nat.le_of_ble_eq_true rfl, Nat.le_of_ble_eq_true rfl⟩ (fun qwa qgi qlo qtu H locs hP hD hS => ?_)
  refine lv_iconst (v := 2) hx hb dL_cars_387 (by decide) ?_
  refine lv_icmp_ne (tgt := 448) hx hb dL_cars_388 (by decide) (fun c => absurd (by decide) c) (fun _ => ?_)
  refine lv_aload_n hx hb dL_cars_391 rfl (lv_at hl 0 rfl) ?_
  refine lv_iconst (v := 1) hx hb dL_cars_392 (by decide) ?_
  refine lv_sipush (v := 5000) hx hb dL_cars_393 (by decide) ?_
  refine lv_iconst (v := 1) hx hb dL_cars_396 (by decide) ?_
  refine lv_sipush (v := 500) hx hb dL_cars_397 (by decide) ?_
  refine lk_park (rest := []) (As := [.int 1, .int 5000, .int 1, .int 500]) (v := (-4500)) hC (c_X0_plugIn l dC dI cI cZ h a uc_a3 uc_a4 uc_a19 uc_a13 uc_a16 uF0 2 100 0 8 23 2 qwa qgi qlo qtu 2 1 5000 1 500 (by decide +kernel) (by decide) uc_e122) uc_e123 (cwV 4 hts gL_cars_X0_plugIn rfl rfl rfl hd_X0_plugIn ⟨Nat.le_of_ble_eq_true rfl, Nat.le_of_ble_eq_true rfl⟩) hK hP hD hS hA rfl rfl hl.1 (Nat.le_of_ble_eq_true rfl) dL_cars_400 rfl ⟨Nat.le_of_ble_eq_true rfl, Nat.le_of_ble_eq_true rfl⟩ (fun qwa qgi qlo qtu H locs hP hD hS => ?_)
  rw [uc_e124, uc_e125, uc_e126] at hP hD
  refine lv_sipush (v := (-4500)) hx hb dL_cars_403 (by decide) ?_
  refine lv_icmp_ne (tgt := 448) hx hb dL_cars_406 (by decide) (fun c => absurd (by decide) c) (fun _ => ?_)
  refine lv_aload_n hx hb dL_cars_409 rfl (lv_at hl 0 rfl) ?_
  refine lv_iconst (v := 1) hx hb dL_cars_410 (by decide) ?_
  refine lk_park (rest := []) (As := [.int 1]) (v := 5000) hC (c_X0_takeOut l dC dI cI cZ h a uc_a3 uc_a4 uc_a20 uc_a21 uc_a22 uF0 2 100 0 8 23 2 qwa qgi qlo qtu 2 1 (by decide +kernel) (by decide) uc_e127) uc_e128 (cwV 1 hts gL_cars_X0_takeOut rfl rfl rfl hd_X0_takeOut ⟨Nat.le_of_ble_eq_true rfl, Nat.le_of_ble_eq_true rfl⟩) hK hP hD hS hA rfl rfl hl.1 (Nat.le_of_ble_eq_true rfl) dL_cars_411 rfl ⟨Nat.le_of_ble_eq_true rfl, Nat.le_of_ble_eq_true rfl⟩ (fun qwa qgi qlo qtu H locs hP hD hS => ?_)
  rw [uc_e129, uc_e130] at hP hD
  refine lv_sipush (v := 5000) hx hb dL_cars_414 (by decide) ?_
  refine lv_icmp_ne (tgt := 448) hx hb dL_cars_417 (by decide) (fun c => absurd (by decide) c) (fun _ => ?_)
  refine lv_aload_n hx hb dL_cars_420 rfl (lv_at hl 0 rfl) ?_
  refine lk_park (rest := []) (As := []) (v := 2) hC (c_X0_served l dC dI cI cZ h a uc_a3 uc_a4 uc_a23 uc_a21 uc_a22 uF0 2 100 0 8 23 2 qwa qgi qlo qtu) uc_e131 (cwV 0 hts gL_cars_X0_served rfl rfl rfl hd_X0_served ⟨Nat.le_of_ble_eq_true rfl, Nat.le_of_ble_eq_true rfl⟩) hK hP hD hS hA rfl rfl hl.1 (Nat.le_of_ble_eq_true rfl) dL_cars_421 rfl ⟨Nat.le_of_ble_eq_true rfl, Nat.le_of_ble_eq_true rfl⟩ (fun qwa qgi qlo qtu H locs hP hD hS => ?_)
  refine lv_iconst (v := 2) hx hb dL_cars_424 (by decide) ?_
  refine lv_icmp_ne (tgt := 448) hx hb dL_cars_425 (by decide) (fun c => absurd (by decide) c) (fun _ => ?_)
  refine lv_aload_n hx hb dL_cars_428 rfl (lv_at hl 0 rfl) ?_
  refine lk_park (rest := []) (As := []) (v := 23) hC (c_X0_taken l dC dI cI cZ h a uc_a3 uc_a4 uc_a23 uc_a21 uc_a22 uF0 2 100 0 8 23 2 qwa qgi qlo qtu) uc_e132 (cwV 0 hts gL_cars_X0_taken rfl rfl rfl hd_X0_taken ⟨Nat.le_of_ble_eq_true rfl, Nat.le_of_ble_eq_true rfl⟩) hK hP hD hS hA rfl rfl hl.1 (Nat.le_of_ble_eq_true rfl) dL_cars_429 rfl ⟨Nat.le_of_ble_eq_true rfl, Nat.le_of_ble_eq_true rfl⟩ (fun qwa qgi qlo qtu H locs hP hD hS => ?_)
  refine lv_bipush (v := 23) hx hb dL_cars_432 (by decide) ?_
  refine lv_icmp_ne (tgt := 448) hx hb dL_cars_434 (by decide) (fun c => absurd (by decide) c) (fun _ => ?_)
  refine lv_aload_n hx hb dL_cars_437 rfl (lv_at hl 0 rfl) ?_
  refine lk_call (rest := []) (As := [.ref h]) hC (c_L_refuses l hl0 dC dI cI cZ h a uc_a3 uc_a4 uc_a23 uc_a21 uc_a22 uF0 2 100 0 8 23 2 qwa qgi qlo qtu 2 (by decide +kernel) (by decide) (by decide) _ (fun wa gi lo tu => ob_held (by decide) uc_e133 wa gi lo tu uZ uZ uZ uZ)) (va_cwS 1 hts gL_cars_L_refuses rfl rfl rfl hd_L_refuses ⟨Nat.le_of_ble_eq_true rfl, Nat.le_of_ble_eq_true rfl⟩) hK hNs hZ hP hD hS hA rfl hl.1 (Nat.le_of_ble_eq_true rfl) dL_cars_438 rfl ⟨Nat.le_of_ble_eq_true rfl, Nat.le_of_ble_eq_true rfl⟩ (fun w2 H locs hB hP hD hS => ?_)
  obtain ⟨qwa, qgi, qlo, qtu, rfl⟩ := hB
  refine lv_if_eq (tgt := 448) hx hb dL_cars_441 (by decide) (fun c => absurd c (by decide)) (fun _ => ?_)
  refine lv_iconst (v := 1) hx hb dL_cars_444 (by decide) ?_
  refine lv_goto (tgt := 449) hx hb dL_cars_445 (by decide) ?_
  exact hret H locs _ 449 ls trivial hS hP hD dL_cars_449
