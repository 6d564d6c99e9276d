theorem hd_L_ties : yL_ties.cls ≠ "java/lang/invoke/MethodHandle" ∧ yL_ties.cls ≠ "java/lang/invoke/VarHandle" ∧ (parseMethodDescriptor yL_ties.desc).map (fun d => d.parameters.length) = some 0 := by decide +kernel
abbrev rmL_ties : Room := { frames := 10, cells := 104, slots := 644, locals := 208 }
set_option maxHeartbeats 4000000 in
set_option maxRecDepth 100000 in
theorem c_L_ties (l : Launch) (hl0 : l.stackTraces = false) (dC : Nat → ClassId) (dI : Nat → Nat → Nat) (cI cZ : ClassId) : Lk l yL_ties wsL_ties rmL_ties dC dI cI cZ [] [] 1 (fun _ => True) 104 644 := by
  refine lk_enter (cc := cL_ties) (maxL := 2) (by decide) rfl (Nat.zero_le _) ?_
  intro p e s m args below meth c A ls Q hC hK hNs hZ hP hD hS hA hl hret
  obtain ⟨hx, hb, hml, hown, hts⟩ := id hC
  have hin : ∀ w ∈ wsX00, w ∈ wsL_ties := by decide +kernel
  have hl : lv_has ls 2 [] := hl
  refine va_new (ci := 0) (fs := [.null, .null, .null, .null, .null, .null, .int 0, .int 0, .int 0, .int 0, .int 0, .int 0, .null, .null, .null, .null]) (C := RX0) (T := TX0) (N := 16) hx hb hts hin tyX0 tyX0_ok hown (hts (.classLink RL 8 RX0) (by decide +kernel)) (hts (.instantiable RX0 16) (by decide +kernel)) (hts (.initialized RX0) (by decide +kernel)) hK hP hD hS hA rfl (fun j hj => by rcases (show j = 0 ∨ j = 1 ∨ j = 2 ∨ j = 3 ∨ j = 4 ∨ j = 5 ∨ j = 6 ∨ j = 7 ∨ j = 8 ∨ j = 9 ∨ j = 10 ∨ j = 11 ∨ j = 12 ∨ j = 13 ∨ j = 14 ∨ j = 15 by omega) with rfl | rfl | rfl | rfl | rfl | rfl | rfl | rfl | rfl | rfl | rfl | rfl | rfl | rfl | rfl | rfl <;> rfl) (Nat.le_of_ble_eq_true rfl) (Nat.le_of_ble_eq_true rfl) dL_ties_0 (fun h H hP hD hS => ?_)
  refine W.widen (k := 1) (n := 16) (Nat.le_of_ble_eq_true rfl) (Nat.le_of_ble_eq_true rfl) ?_
  have hP : va_P (dC, dI) vwCl [(h, .inr (0, [.null, .null, .null, .null, .null, .null, .int 0, .int 0, .int 0, .int 0, .int 0, .int 0, .null, .null, .null, .null]))] H := hP
  have hD : va_D A [(h, .inr (0, [.null, .null, .null, .null, .null, .null, .int 0, .int 0, .int 0, .int 0, .int 0, .int 0, .null, .null, .null, .null]))] := hD
  refine lv_dup hx hb dL_ties_3 rfl ?_
  have hF := k_free hD hS hA
  refine va_callv (va_runI (As := []) (rest := [.ref h]) hC (c_X0_init l dC dI cI cZ h H.size) (cwI 0 hts gL_ties_X0_init rfl rfl rfl (hts (.initialized RX0) (by decide +kernel)) (hts (.methodLink RL 92 yX0_init) (by decide +kernel)) (hts (.instanceMethod yX0_init) (by decide +kernel)) rfl (by decide +kernel) ⟨Nat.le_of_ble_eq_true rfl, Nat.le_of_ble_eq_true rfl⟩) ⟨kPre_blind, kPre_at hK hP hD⟩ rfl rfl hl.1 rfl (lv_room (Nat.le_of_ble_eq_true rfl)) dL_ties_4 ⟨Nat.le_of_ble_eq_true rfl, Nat.le_of_ble_eq_true rfl⟩) hS (fun q _ h => hF q h) hF (fun a t H1 locs ht hvm hw hB hz1 hk1 hS => ?_)
  obtain ⟨hP1, hD1⟩ := hB
  rw [ht] at hP1
  have hP : va_P (dC, dI) vwCl (xW cI cZ h a uZ uZ uZ uZ uZ uF0 0 100 0 0 0 0 uZ uZ uZ uZ) H1 := hP1
  have hD : va_D A (xW cI cZ h a uZ uZ uZ uZ uZ uF0 0 100 0 0 0 0 uZ uZ uZ uZ) := hD1.weaken (fun _ q _ h => hF _ h)
  obtain ⟨qwa, hqwa⟩ : ∃ x, x = uZ := ⟨_, rfl⟩
  obtain ⟨qgi, hqgi⟩ : ∃ x, x = uZ := ⟨_, rfl⟩
  obtain ⟨qlo, hqlo⟩ : ∃ x, x = uZ := ⟨_, rfl⟩
  obtain ⟨qtu, hqtu⟩ : ∃ x, x = uZ := ⟨_, rfl⟩
  have hP : va_P (dC, dI) vwCl (xW cI cZ h a uZ uZ uZ uZ uZ uF0 0 100 0 0 0 0 qwa qgi qlo qtu) H1 := by rw [hqwa, hqgi, hqlo, hqtu]; exact hP
  have hD : va_D A (xW cI cZ h a uZ uZ uZ uZ uZ uF0 0 100 0 0 0 0 qwa qgi qlo qtu) := by rw [hqwa, hqgi, hqlo, hqtu]; exact hD
  generalize H1 = H at hP hS ⊢
  refine W.widen (k := 11) (n := 86) (Nat.le_of_ble_eq_true rfl) (Nat.le_of_ble_eq_true rfl) ?_
  refine lv_astore_n (lv' := [(0, .ref h)]) hx hb dL_ties_7 rfl hl (by decide) rfl (fun ls hl => ?_)
  refine lv_iconst (v := 0) hx hb dL_ties_8 (by decide) ?_
  refine lv_istore_n (lv' := [(1, .int 0), (0, .ref h)]) hx hb dL_ties_9 rfl hl (by decide) rfl (fun ls hl => ?_)
  refine lv_iload_n hx hb dL_ties_10 rfl (lv_at hl 0 rfl) ?_
  refine lv_bipush (v := 9) hx hb dL_ties_11 (by decide) ?_
  refine lv_icmp_ge (tgt := 53) hx hb dL_ties_13 (by decide) (fun c => absurd c (by decide)) (fun _ => ?_)
  refine lv_aload_n hx hb dL_ties_16 rfl (lv_at hl 1 rfl) ?_
  refine lv_iconst (v := 0) hx hb dL_ties_17 (by decide) ?_
  refine lv_iload_n hx hb dL_ties_18 rfl (lv_at hl 0 rfl) ?_
  refine lv_iconst (v := 3) hx hb dL_ties_19 (by decide) ?_
  refine lv_irem hx hb dL_ties_20 (by decide) ?_
  rw [show (0 - 0 / 3 * 3 : Int32) = 0 from by decide +kernel]
  refine lv_bipush (v := 6) hx hb dL_ties_21 (by decide) ?_
  refine lv_iload_n hx hb dL_ties_23 rfl (lv_at hl 0 rfl) ?_
  refine lv_iadd hx hb dL_ties_24 ?_
  rw [show (6 + 0 : Int32) = 6 from by decide +kernel]
  refine lv_iconst (v := 0) hx hb dL_ties_25 (by decide) ?_
  refine lv_iconst (v := 0) hx hb dL_ties_26 (by decide) ?_
  refine lk_callH (rest := []) (As := [.ref h, .int 0, .int 0, .int 6, .int 0, .int 0]) hC (a_point l dC dI cI cZ h a uZ uZ uZ uZ uZ uF0 0 100 0 0 0 0 qwa qgi qlo qtu 0 0 6 0 0 (by decide +kernel) (by decide) ut_e0) (vx_cwSW 6 hts gL_ties_L_act rfl rfl rfl hd_L_act ⟨Nat.le_of_ble_eq_true rfl, Nat.le_of_ble_eq_true rfl⟩) hK hNs hZ hP hD hS hA rfl hl.1 (Nat.le_of_ble_eq_true rfl) dL_ties_27 rfl ⟨Nat.le_of_ble_eq_true rfl, Nat.le_of_ble_eq_true rfl⟩ (fun w2 H locs hB hP hD hS => ?_)
  subst hB
  rw [ut_e1]
  rw [ut_e2, ut_e3, ut_e4, ut_e5] at hP hD
  refine lv_iload_n hx hb dL_ties_30 rfl (lv_at hl 0 rfl) ?_
  refine lv_bipush (v := 8) hx hb dL_ties_31 (by decide) ?_
  refine lv_icmp_ge (tgt := 40) hx hb dL_ties_33 (by decide) (fun c => absurd c (by decide)) (fun _ => ?_)
  refine lv_iload_n hx hb dL_ties_36 rfl (lv_at hl 0 rfl) ?_
  refine lv_goto (tgt := 42) hx hb dL_ties_37 (by decide) ?_
  refine lv_icmp_eq (tgt := 47) hx hb dL_ties_42 (by decide) (fun _ => ?_) (fun c => absurd (by decide) c)
  refine lv_iinc (v := 1) (lv' := [(1, .int 1), (0, .ref h)]) hx hb dL_ties_47 hl (k := 0) rfl (by decide) (by decide) rfl (fun ls hl => ?_)
  refine lv_goto (tgt := 10) hx hb dL_ties_50 (by decide) ?_
  refine lv_iload_n hx hb dL_ties_10 rfl (lv_at hl 0 rfl) ?_
  refine lv_bipush (v := 9) hx hb dL_ties_11 (by decide) ?_
  refine lv_icmp_ge (tgt := 53) hx hb dL_ties_13 (by decide) (fun c => absurd c (by decide)) (fun _ => ?_)
  refine lv_aload_n hx hb dL_ties_16 rfl (lv_at hl 1 rfl) ?_
  refine lv_iconst (v := 0) hx hb dL_ties_17 (by decide) ?_
  refine lv_iload_n hx hb dL_ties_18 rfl (lv_at hl 0 rfl) ?_
  refine lv_iconst (v := 3) hx hb dL_ties_19 (by decide) ?_
  refine lv_irem hx hb dL_ties_20 (by decide) ?_
  rw [show (1 - 1 / 3 * 3 : Int32) = 1 from by decide +kernel]
  refine lv_bipush (v := 6) hx hb dL_ties_21 (by decide) ?_
  refine lv_iload_n hx hb dL_ties_23 rfl (lv_at hl 0 rfl) ?_
  refine lv_iadd hx hb dL_ties_24 ?_
  rw [show (6 + 1 : Int32) = 7 from by decide +kernel]
  refine lv_iconst (v := 0) hx hb dL_ties_25 (by decide) ?_
  refine lv_iconst (v := 0) hx hb dL_ties_26 (by decide) ?_
  refine lk_callH (rest := []) (As := [.ref h, .int 0, .int 1, .int 7, .int 0, .int 0]) hC (a_point l dC dI cI cZ h a ut_a0 ut_a1 ut_a2 uZ uZ uF0 1 100 0 0 0 0 qwa qgi qlo qtu 1 1 7 0 0 (by decide +kernel) (by decide) ut_e6) (vx_cwSW 6 hts gL_ties_L_act rfl rfl rfl hd_L_act ⟨Nat.le_of_ble_eq_true rfl, Nat.le_of_ble_eq_true rfl⟩) hK hNs hZ hP hD hS hA rfl hl.1 (Nat.le_of_ble_eq_true rfl) dL_ties_27 rfl ⟨Nat.le_of_ble_eq_true rfl, Nat.le_of_ble_eq_true rfl⟩ (fun w2 H locs hB hP hD hS => ?_)
  subst hB
  rw [ut_e7]
  rw [ut_e8, ut_e9, ut_e10, ut_e11] at hP hD
  refine lv_iload_n hx hb dL_ties_30 rfl (lv_at hl 0 rfl) ?_
  refine lv_bipush (v := 8) hx hb dL_ties_31 (by decide) ?_
  refine lv_icmp_ge (tgt := 40) hx hb dL_ties_33 (by decide) (fun c => absurd c (by decide)) (fun _ => ?_)
  refine lv_iload_n hx hb dL_ties_36 rfl (lv_at hl 0 rfl) ?_
  refine lv_goto (tgt := 42) hx hb dL_ties_37 (by decide) ?_
  refine lv_icmp_eq (tgt := 47) hx hb dL_ties_42 (by decide) (fun _ => ?_) (fun c => absurd (by decide) c)
  refine lv_iinc (v := 2) (lv' := [(1, .int 2), (0, .ref h)]) hx hb dL_ties_47 hl (k := 0) rfl (by decide) (by decide) rfl (fun ls hl => ?_)
  refine lv_goto (tgt := 10) hx hb dL_ties_50 (by decide) ?_
  refine lv_iload_n hx hb dL_ties_10 rfl (lv_at hl 0 rfl) ?_
  refine lv_bipush (v := 9) hx hb dL_ties_11 (by decide) ?_
  refine lv_icmp_ge (tgt := 53) hx hb dL_ties_13 (by decide) (fun c => absurd c (by decide)) (fun _ => ?_)
  refine lv_aload_n hx hb dL_ties_16 rfl (lv_at hl 1 rfl) ?_
  refine lv_iconst (v := 0) hx hb dL_ties_17 (by decide) ?_
  refine lv_iload_n hx hb dL_ties_18 rfl (lv_at hl 0 rfl) ?_
  refine lv_iconst (v := 3) hx hb dL_ties_19 (by decide) ?_
  refine lv_irem hx hb dL_ties_20 (by decide) ?_
  rw [show (2 - 2 / 3 * 3 : Int32) = 2 from by decide +kernel]
  refine lv_bipush (v := 6) hx hb dL_ties_21 (by decide) ?_
  refine lv_iload_n hx hb dL_ties_23 rfl (lv_at hl 0 rfl) ?_
  refine lv_iadd hx hb dL_ties_24 ?_
  rw [show (6 + 2 : Int32) = 8 from by decide +kernel]
  refine lv_iconst (v := 0) hx hb dL_ties_25 (by decide) ?_
  refine lv_iconst (v := 0) hx hb dL_ties_26 (by decide) ?_
  refine lk_callH (rest := []) (As := [.ref h, .int 0, .int 2, .int 8, .int 0, .int 0]) hC (a_point l dC dI cI cZ h a ut_a3 ut_a4 ut_a5 uZ uZ uF0 2 100 0 0 0 0 qwa qgi qlo qtu 2 2 8 0 0 (by decide +kernel) (by decide) ut_e12) (vx_cwSW 6 hts gL_ties_L_act rfl rfl rfl hd_L_act ⟨Nat.le_of_ble_eq_true rfl, Nat.le_of_ble_eq_true rfl⟩) hK hNs hZ hP hD hS hA rfl hl.1 (Nat.le_of_ble_eq_true rfl) dL_ties_27 rfl ⟨Nat.le_of_ble_eq_true rfl, Nat.le_of_ble_eq_true rfl⟩ (fun w2 H locs hB hP hD hS => ?_)
  subst hB
  rw [ut_e13]
  rw [ut_e14, ut_e15, ut_e16, ut_e17] at hP hD
  refine lv_iload_n hx hb dL_ties_30 rfl (lv_at hl 0 rfl) ?_
  refine lv_bipush (v := 8) hx hb dL_ties_31 (by decide) ?_
  refine lv_icmp_ge (tgt := 40) hx hb dL_ties_33 (by decide) (fun c => absurd c (by decide)) (fun _ => ?_)
  refine lv_iload_n hx hb dL_ties_36 rfl (lv_at hl 0 rfl) ?_
  refine lv_goto (tgt := 42) hx hb dL_ties_37 (by decide) ?_
  refine lv_icmp_eq (tgt := 47) hx hb dL_ties_42 (by decide) (fun _ => ?_) (fun c => absurd (by decide) c)
  refine lv_iinc (v := 3) (lv' := [(1, .int 3), (0, .ref h)]) hx hb dL_ties_47 hl (k := 0) rfl (by decide) (by decide) rfl (fun ls hl => ?_)
  refine lv_goto (tgt := 10) hx hb dL_ties_50 (by decide) ?_
  refine lv_iload_n hx hb dL_ties_10 rfl (lv_at hl 0 rfl) ?_
  refine lv_bipush (v := 9) hx hb dL_ties_11 (by decide) ?_
  refine lv_icmp_ge (tgt := 53) hx hb dL_ties_13 (by decide) (fun c => absurd c (by decide)) (fun _ => ?_)
  refine lv_aload_n hx hb dL_ties_16 rfl (lv_at hl 1 rfl) ?_
  refine lv_iconst (v := 0) hx hb dL_ties_17 (by decide) ?_
  refine lv_iload_n hx hb dL_ties_18 rfl (lv_at hl 0 rfl) ?_
  refine lv_iconst (v := 3) hx hb dL_ties_19 (by decide) ?_
  refine lv_irem hx hb dL_ties_20 (by decide) ?_
  rw [show (3 - 3 / 3 * 3 : Int32) = 0 from by decide +kernel]
  refine lv_bipush (v := 6) hx hb dL_ties_21 (by decide) ?_
  refine lv_iload_n hx hb dL_ties_23 rfl (lv_at hl 0 rfl) ?_
  refine lv_iadd hx hb dL_ties_24 ?_
  rw [show (6 + 3 : Int32) = 9 from by decide +kernel]
  refine lv_iconst (v := 0) hx hb dL_ties_25 (by decide) ?_
  refine lv_iconst (v := 0) hx hb dL_ties_26 (by decide) ?_
  refine lk_callH (rest := []) (As := [.ref h, .int 0, .int 0, .int 9, .int 0, .int 0]) hC (a_point l dC dI cI cZ h a ut_a6 ut_a7 ut_a8 uZ uZ uF0 3 100 0 0 0 0 qwa qgi qlo qtu 3 0 9 0 0 (by decide +kernel) (by decide) ut_e18) (vx_cwSW 6 hts gL_ties_L_act rfl rfl rfl hd_L_act ⟨Nat.le_of_ble_eq_true rfl, Nat.le_of_ble_eq_true rfl⟩) hK hNs hZ hP hD hS hA rfl hl.1 (Nat.le_of_ble_eq_true rfl) dL_ties_27 rfl ⟨Nat.le_of_ble_eq_true rfl, Nat.le_of_ble_eq_true rfl⟩ (fun w2 H locs hB hP hD hS => ?_)
  subst hB
  rw [ut_e19]
  rw [ut_e20, ut_e21, ut_e22, ut_e23] at hP hD
  refine lv_iload_n hx hb dL_ties_30 rfl (lv_at hl 0 rfl) ?_
  refine lv_bipush (v := 8) hx hb dL_ties_31 (by decide) ?_
  refine lv_icmp_ge (tgt := 40) hx hb dL_ties_33 (by decide) (fun c => absurd c (by decide)) (fun _ => ?_)
  refine lv_iload_n hx hb dL_ties_36 rfl (lv_at hl 0 rfl) ?_
  refine lv_goto (tgt := 42) hx hb dL_ties_37 (by decide) ?_
  refine lv_icmp_eq (tgt := 47) hx hb dL_ties_42 (by decide) (fun _ => ?_) (fun c => absurd (by decide) c)
  refine lv_iinc (v := 4) (lv' := [(1, .int 4), (0, .ref h)]) hx hb dL_ties_47 hl (k := 0) rfl (by decide) (by decide) rfl (fun ls hl => ?_)
  refine lv_goto (tgt := 10) hx hb dL_ties_50 (by decide) ?_
  refine lv_iload_n hx hb dL_ties_10 rfl (lv_at hl 0 rfl) ?_
  refine lv_bipush (v := 9) hx hb dL_ties_11 (by decide) ?_
  refine lv_icmp_ge (tgt := 53) hx hb dL_ties_13 (by decide) (fun c => absurd c (by decide)) (fun _ => ?_)
  refine lv_aload_n hx hb dL_ties_16 rfl (lv_at hl 1 rfl) ?_
  refine lv_iconst (v := 0) hx hb dL_ties_17 (by decide) ?_
  refine lv_iload_n hx hb dL_ties_18 rfl (lv_at hl 0 rfl) ?_
  refine lv_iconst (v := 3) hx hb dL_ties_19 (by decide) ?_
  refine lv_irem hx hb dL_ties_20 (by decide) ?_
  rw [show (4 - 4 / 3 * 3 : Int32) = 1 from by decide +kernel]
  refine lv_bipush (v := 6) hx hb dL_ties_21 (by decide) ?_
  refine lv_iload_n hx hb dL_ties_23 rfl (lv_at hl 0 rfl) ?_
  refine lv_iadd hx hb dL_ties_24 ?_
  rw [show (6 + 4 : Int32) = 10 from by decide +kernel]
  refine lv_iconst (v := 0) hx hb dL_ties_25 (by decide) ?_
  refine lv_iconst (v := 0) hx hb dL_ties_26 (by decide) ?_
  refine lk_callH (rest := []) (As := [.ref h, .int 0, .int 1, .int 10, .int 0, .int 0]) hC (a_point l dC dI cI cZ h a ut_a9 ut_a10 ut_a11 uZ uZ uF0 4 100 0 0 0 0 qwa qgi qlo qtu 4 1 10 0 0 (by decide +kernel) (by decide) ut_e24) (vx_cwSW 6 hts gL_ties_L_act rfl rfl rfl hd_L_act ⟨Nat.le_of_ble_eq_true rfl, Nat.le_of_ble_eq_true rfl⟩) hK hNs hZ hP hD hS hA rfl hl.1 (Nat.le_of_ble_eq_true rfl) dL_ties_27 rfl ⟨Nat.le_of_ble_eq_true rfl, Nat.le_of_ble_eq_true rfl⟩ (fun w2 H locs hB hP hD hS => ?_)
  subst hB
  rw [ut_e25]
  rw [ut_e26, ut_e27, ut_e28, ut_e29] at hP hD
  refine lv_iload_n hx hb dL_ties_30 rfl (lv_at hl 0 rfl) ?_
  refine lv_bipush (v := 8) hx hb dL_ties_31 (by decide) ?_
  refine lv_icmp_ge (tgt := 40) hx hb dL_ties_33 (by decide) (fun c => absurd c (by decide)) (fun _ => ?_)
  refine lv_iload_n hx hb dL_ties_36 rfl (lv_at hl 0 rfl) ?_
  refine lv_goto (tgt := 42) hx hb dL_ties_37 (by decide) ?_
  refine lv_icmp_eq (tgt := 47) hx hb dL_ties_42 (by decide) (fun _ => ?_) (fun c => absurd (by decide) c)
  refine lv_iinc (v := 5) (lv' := [(1, .int 5), (0, .ref h)]) hx hb dL_ties_47 hl (k := 0) rfl (by decide) (by decide) rfl (fun ls hl => ?_)
  refine lv_goto (tgt := 10) hx hb dL_ties_50 (by decide) ?_
  refine lv_iload_n hx hb dL_ties_10 rfl (lv_at hl 0 rfl) ?_
  refine lv_bipush (v := 9) hx hb dL_ties_11 (by decide) ?_
  refine lv_icmp_ge (tgt := 53) hx hb dL_ties_13 (by decide) (fun c => absurd c (by decide)) (fun _ => ?_)
  refine lv_aload_n hx hb dL_ties_16 rfl (lv_at hl 1 rfl) ?_
  refine lv_iconst (v := 0) hx hb dL_ties_17 (by decide) ?_
  refine lv_iload_n hx hb dL_ties_18 rfl (lv_at hl 0 rfl) ?_
  refine lv_iconst (v := 3) hx hb dL_ties_19 (by decide) ?_
  refine lv_irem hx hb dL_ties_20 (by decide) ?_
  rw [show (5 - 5 / 3 * 3 : Int32) = 2 from by decide +kernel]
  refine lv_bipush (v := 6) hx hb dL_ties_21 (by decide) ?_
  refine lv_iload_n hx hb dL_ties_23 rfl (lv_at hl 0 rfl) ?_
  refine lv_iadd hx hb dL_ties_24 ?_
  rw [show (6 + 5 : Int32) = 11 from by decide +kernel]
  refine lv_iconst (v := 0) hx hb dL_ties_25 (by decide) ?_
  refine lv_iconst (v := 0) hx hb dL_ties_26 (by decide) ?_
  refine lk_callH (rest := []) (As := [.ref h, .int 0, .int 2, .int 11, .int 0, .int 0]) hC (a_point l dC dI cI cZ h a ut_a12 ut_a13 ut_a14 uZ uZ uF0 5 100 0 0 0 0 qwa qgi qlo qtu 5 2 11 0 0 (by decide +kernel) (by decide) ut_e30) (vx_cwSW 6 hts gL_ties_L_act rfl rfl rfl hd_L_act ⟨Nat.le_of_ble_eq_true rfl, Nat.le_of_ble_eq_true rfl⟩) hK hNs hZ hP hD hS hA rfl hl.1 (Nat.le_of_ble_eq_true rfl) dL_ties_27 rfl ⟨Nat.le_of_ble_eq_true rfl, Nat.le_of_ble_eq_true rfl⟩ (fun w2 H locs hB hP hD hS => ?_)
  subst hB
  rw [ut_e31]
  rw [ut_e32, ut_e33, ut_e34, ut_e35] at hP hD
  refine lv_iload_n hx hb dL_ties_30 rfl (lv_at hl 0 rfl) ?_
  refine lv_bipush (v := 8) hx hb dL_ties_31 (by decide) ?_
  refine lv_icmp_ge (tgt := 40) hx hb dL_ties_33 (by decide) (fun c => absurd c (by decide)) (fun _ => ?_)
  refine lv_iload_n hx hb dL_ties_36 rfl (lv_at hl 0 rfl) ?_
  refine lv_goto (tgt := 42) hx hb dL_ties_37 (by decide) ?_
  refine lv_icmp_eq (tgt := 47) hx hb dL_ties_42 (by decide) (fun _ => ?_) (fun c => absurd (by decide) c)
  refine lv_iinc (v := 6) (lv' := [(1, .int 6), (0, .ref h)]) hx hb dL_ties_47 hl (k := 0) rfl (by decide) (by decide) rfl (fun ls hl => ?_)
  refine lv_goto (tgt := 10) hx hb dL_ties_50 (by decide) ?_
  refine lv_iload_n hx hb dL_ties_10 rfl (lv_at hl 0 rfl) ?_
  refine lv_bipush (v := 9) hx hb dL_ties_11 (by decide) ?_
  refine lv_icmp_ge (tgt := 53) hx hb dL_ties_13 (by decide) (fun c => absurd c (by decide)) (fun _ => ?_)
  refine lv_aload_n hx hb dL_ties_16 rfl (lv_at hl 1 rfl) ?_
  refine lv_iconst (v := 0) hx hb dL_ties_17 (by decide) ?_
  refine lv_iload_n hx hb dL_ties_18 rfl (lv_at hl 0 rfl) ?_
  refine lv_iconst (v := 3) hx hb dL_ties_19 (by decide) ?_
  refine lv_irem hx hb dL_ties_20 (by decide) ?_
  rw [show (6 - 6 / 3 * 3 : Int32) = 0 from by decide +kernel]
  refine lv_bipush (v := 6) hx hb dL_ties_21 (by decide) ?_
  refine lv_iload_n hx hb dL_ties_23 rfl (lv_at hl 0 rfl) ?_
  refine lv_iadd hx hb dL_ties_24 ?_
  rw [show (6 + 6 : Int32) = 12 from by decide +kernel]
  refine lv_iconst (v := 0) hx hb dL_ties_25 (by decide) ?_
  refine lv_iconst (v := 0) hx hb dL_ties_26 (by decide) ?_
  refine lk_callH (rest := []) (As := [.ref h, .int 0, .int 0, .int 12, .int 0, .int 0]) hC (a_point l dC dI cI cZ h a ut_a15 ut_a16 ut_a17 uZ uZ uF0 6 100 0 0 0 0 qwa qgi qlo qtu 6 0 12 0 0 (by decide +kernel) (by decide) ut_e36) (vx_cwSW 6 hts gL_ties_L_act rfl rfl rfl hd_L_act ⟨Nat.le_of_ble_eq_true rfl, Nat.le_of_ble_eq_true rfl⟩) hK hNs hZ hP hD hS hA rfl hl.1 (Nat.le_of_ble_eq_true rfl) dL_ties_27 rfl ⟨Nat.le_of_ble_eq_true rfl, Nat.le_of_ble_eq_true rfl⟩ (fun w2 H locs hB hP hD hS => ?_)
  subst hB
  rw [ut_e37]
  rw [ut_e38, ut_e39, ut_e40, ut_e41] at hP hD
  refine lv_iload_n hx hb dL_ties_30 rfl (lv_at hl 0 rfl) ?_
  refine lv_bipush (v := 8) hx hb dL_ties_31 (by decide) ?_
  refine lv_icmp_ge (tgt := 40) hx hb dL_ties_33 (by decide) (fun c => absurd c (by decide)) (fun _ => ?_)
  refine lv_iload_n hx hb dL_ties_36 rfl (lv_at hl 0 rfl) ?_
  refine lv_goto (tgt := 42) hx hb dL_ties_37 (by decide) ?_
  refine lv_icmp_eq (tgt := 47) hx hb dL_ties_42 (by decide) (fun _ => ?_) (fun c => absurd (by decide) c)
  refine lv_iinc (v := 7) (lv' := [(1, .int 7), (0, .ref h)]) hx hb dL_ties_47 hl (k := 0) rfl (by decide) (by decide) rfl (fun ls hl => ?_)
  refine lv_goto (tgt := 10) hx hb dL_ties_50 (by decide) ?_
  refine lv_iload_n hx hb dL_ties_10 rfl (lv_at hl 0 rfl) ?_
  refine lv_bipush (v := 9) hx hb dL_ties_11 (by decide) ?_
  refine lv_icmp_ge (tgt := 53) hx hb dL_ties_13 (by decide) (fun c => absurd c (by decide)) (fun _ => ?_)
  refine lv_aload_n hx hb dL_ties_16 rfl (lv_at hl 1 rfl) ?_
  refine lv_iconst (v := 0) hx hb dL_ties_17 (by decide) ?_
  refine lv_iload_n hx hb dL_ties_18 rfl (lv_at hl 0 rfl) ?_
  refine lv_iconst (v := 3) hx hb dL_ties_19 (by decide) ?_
  refine lv_irem hx hb dL_ties_20 (by decide) ?_
  rw [show (7 - 7 / 3 * 3 : Int32) = 1 from by decide +kernel]
  refine lv_bipush (v := 6) hx hb dL_ties_21 (by decide) ?_
  refine lv_iload_n hx hb dL_ties_23 rfl (lv_at hl 0 rfl) ?_
  refine lv_iadd hx hb dL_ties_24 ?_
  rw [show (6 + 7 : Int32) = 13 from by decide +kernel]
  refine lv_iconst (v := 0) hx hb dL_ties_25 (by decide) ?_
  refine lv_iconst (v := 0) hx hb dL_ties_26 (by decide) ?_
  refine lk_callH (rest := []) (As := [.ref h, .int 0, .int 1, .int 13, .int 0, .int 0]) hC (a_point l dC dI cI cZ h a ut_a18 ut_a19 ut_a20 uZ uZ uF0 7 100 0 0 0 0 qwa qgi qlo qtu 7 1 13 0 0 (by decide +kernel) (by decide) ut_e42) (vx_cwSW 6 hts gL_ties_L_act rfl rfl rfl hd_L_act ⟨Nat.le_of_ble_eq_true rfl, Nat.le_of_ble_eq_true rfl⟩) hK hNs hZ hP hD hS hA rfl hl.1 (Nat.le_of_ble_eq_true rfl) dL_ties_27 rfl ⟨Nat.le_of_ble_eq_true rfl, Nat.le_of_ble_eq_true rfl⟩ (fun w2 H locs hB hP hD hS => ?_)
  subst hB
  rw [ut_e43]
  rw [ut_e44, ut_e45, ut_e46, ut_e47] at hP hD
  refine lv_iload_n hx hb dL_ties_30 rfl (lv_at hl 0 rfl) ?_
  refine lv_bipush (v := 8) hx hb dL_ties_31 (by decide) ?_
  refine lv_icmp_ge (tgt := 40) hx hb dL_ties_33 (by decide) (fun c => absurd c (by decide)) (fun _ => ?_)
  refine lv_iload_n hx hb dL_ties_36 rfl (lv_at hl 0 rfl) ?_
  refine lv_goto (tgt := 42) hx hb dL_ties_37 (by decide) ?_
  refine lv_icmp_eq (tgt := 47) hx hb dL_ties_42 (by decide) (fun _ => ?_) (fun c => absurd (by decide) c)
  refine lv_iinc (v := 8) (lv' := [(1, .int 8), (0, .ref h)]) hx hb dL_ties_47 hl (k := 0) rfl (by decide) (by decide) rfl (fun ls hl => ?_)
  refine lv_goto (tgt := 10) hx hb dL_ties_50 (by decide) ?_
  refine lv_iload_n hx hb dL_ties_10 rfl (lv_at hl 0 rfl) ?_
  refine lv_bipush (v := 9) hx hb dL_ties_11 (by decide) ?_
  refine lv_icmp_ge (tgt := 53) hx hb dL_ties_13 (by decide) (fun c => absurd c (by decide)) (fun _ => ?_)
  refine lv_aload_n hx hb dL_ties_16 rfl (lv_at hl 1 rfl) ?_
  refine lv_iconst (v := 0) hx hb dL_ties_17 (by decide) ?_
  refine lv_iload_n hx hb dL_ties_18 rfl (lv_at hl 0 rfl) ?_
  refine lv_iconst (v := 3) hx hb dL_ties_19 (by decide) ?_
  refine lv_irem hx hb dL_ties_20 (by decide) ?_
  rw [show (8 - 8 / 3 * 3 : Int32) = 2 from by decide +kernel]
  refine lv_bipush (v := 6) hx hb dL_ties_21 (by decide) ?_
  refine lv_iload_n hx hb dL_ties_23 rfl (lv_at hl 0 rfl) ?_
  refine lv_iadd hx hb dL_ties_24 ?_
  rw [show (6 + 8 : Int32) = 14 from by decide +kernel]
  refine lv_iconst (v := 0) hx hb dL_ties_25 (by decide) ?_
  refine lv_iconst (v := 0) hx hb dL_ties_26 (by decide) ?_
  refine lk_callH (rest := []) (As := [.ref h, .int 0, .int 2, .int 14, .int 0, .int 0]) hC (a_point_2 l hl0 dC dI cI cZ h a ut_a21 ut_a22 ut_a23 uZ uZ uF0 8 100 0 0 0 0 qwa qgi qlo qtu 8 2 14 0 0 (by decide +kernel) (by decide) ut_e48) (vx_cwSW 6 hts gL_ties_L_act rfl rfl rfl hd_L_act ⟨Nat.le_of_ble_eq_true rfl, Nat.le_of_ble_eq_true rfl⟩) hK hNs hZ hP hD hS hA rfl hl.1 (Nat.le_of_ble_eq_true rfl) dL_ties_27 rfl ⟨Nat.le_of_ble_eq_true rfl, Nat.le_of_ble_eq_true rfl⟩ (fun w2 H locs hB hP hD hS => ?_)
  subst hB
  refine lv_iload_n hx hb dL_ties_30 rfl (lv_at hl 0 rfl) ?_
  refine lv_bipush (v := 8) hx hb dL_ties_31 (by decide) ?_
  refine lv_icmp_ge (tgt := 40) hx hb dL_ties_33 (by decide) (fun _ => ?_) (fun c => absurd (by decide) c)
  refine lv_ldc (v := (-70013)) hx hb hown (hts (.constant RL 68 (-70013)) (by decide +kernel)) dL_ties_40 ?_
  refine lv_icmp_eq (tgt := 47) hx hb dL_ties_42 (by decide) (fun _ => ?_) (fun c => absurd (by decide) c)
  refine lv_iinc (v := 9) (lv' := [(1, .int 9), (0, .ref h)]) hx hb dL_ties_47 hl (k := 0) rfl (by decide) (by decide) rfl (fun ls hl => ?_)
  refine lv_goto (tgt := 10) hx hb dL_ties_50 (by decide) ?_
  refine lv_iload_n hx hb dL_ties_10 rfl (lv_at hl 0 rfl) ?_
  refine lv_bipush (v := 9) hx hb dL_ties_11 (by decide) ?_
  refine lv_icmp_ge (tgt := 53) hx hb dL_ties_13 (by decide) (fun _ => ?_) (fun c => absurd (by decide) c)
  refine lv_iconst (v := 0) hx hb dL_ties_53 (by decide) ?_
  refine lv_istore_n (lv' := [(1, .int 0), (0, .ref h)]) hx hb dL_ties_54 rfl hl (by decide) rfl (fun ls hl => ?_)
  refine lv_iload_n hx hb dL_ties_55 rfl (lv_at hl 0 rfl) ?_
  refine lv_bipush (v := 8) hx hb dL_ties_56 (by decide) ?_
  refine lv_icmp_ge (tgt := 116) hx hb dL_ties_58 (by decide) (fun c => absurd c (by decide)) (fun _ => ?_)
  refine lv_aload_n hx hb dL_ties_61 rfl (lv_at hl 1 rfl) ?_
  refine lv_iload_n hx hb dL_ties_62 rfl (lv_at hl 0 rfl) ?_
  refine lv_bipush (v := 10) hx hb dL_ties_63 (by decide) ?_
  refine lv_bipush (v := 32) hx hb dL_ties_65 (by decide) ?_
  refine lv_iconst (v := 4) hx hb dL_ties_67 (by decide) ?_
  refine lk_park (rest := []) (As := [.int 0, .int 10, .int 32, .int 4]) (v := 2) hC (c_X0_plugIn l dC dI cI cZ h a ut_a21 ut_a22 ut_a23 uZ uZ uF0 8 100 0 0 0 0 qwa qgi qlo qtu 8 0 10 32 4 (by decide +kernel) (by decide) ut_e49) ut_e50 (cwV 4 hts gL_ties_X0_plugIn rfl rfl rfl hd_X0_plugIn ⟨Nat.le_of_ble_eq_true rfl, Nat.le_of_ble_eq_true rfl⟩) hK hP hD hS hA rfl rfl hl.1 (Nat.le_of_ble_eq_true rfl) dL_ties_68 rfl ⟨Nat.le_of_ble_eq_true rfl, Nat.le_of_ble_eq_true rfl⟩ (fun qwa qgi qlo qtu H locs hP hD hS => ?_)
  rw [ut_e51, ut_e52, ut_e53] at hP hD
  refine lv_iload_n hx hb dL_ties_71 rfl (lv_at hl 0 rfl) ?_
  refine lv_iconst (v := 4) hx hb dL_ties_72 (by decide) ?_
  refine lv_icmp_ge (tgt := 80) hx hb dL_ties_73 (by decide) (fun c => absurd c (by decide)) (fun _ => ?_)
  refine lv_iconst (v := 2) hx hb dL_ties_76 (by decide) ?_
  refine lv_goto (tgt := 81) hx hb dL_ties_77 (by decide) ?_
  refine lv_icmp_ne (tgt := 108) hx hb dL_ties_81 (by decide) (fun c => absurd (by decide) c) (fun _ => ?_)
  refine lv_aload_n hx hb dL_ties_84 rfl (lv_at hl 1 rfl) ?_
  refine lv_iload_n hx hb dL_ties_85 rfl (lv_at hl 0 rfl) ?_
  refine lv_iconst (v := 3) hx hb dL_ties_86 (by decide) ?_
  refine lv_irem hx hb dL_ties_87 (by decide) ?_
  rw [show (0 - 0 / 3 * 3 : Int32) = 0 from by decide +kernel]
  refine lv_bipush (v := 12) hx hb dL_ties_88 (by decide) ?_
  refine lk_park (rest := []) (As := [.int 0, .int 12]) (v := 32) hC (c_X0_fuse l dC dI cI cZ h a ut_a21 ut_a22 ut_a24 ut_a25 ut_a26 uF0 8 100 0 0 0 0 qwa qgi qlo qtu 0 12 ut_e54) ut_e55 (cwV 2 hts gL_ties_X0_fuse rfl rfl rfl hd_X0_fuse ⟨Nat.le_of_ble_eq_true rfl, Nat.le_of_ble_eq_true rfl⟩) hK hP hD hS hA rfl rfl hl.1 (Nat.le_of_ble_eq_true rfl) dL_ties_90 rfl ⟨Nat.le_of_ble_eq_true rfl, Nat.le_of_ble_eq_true rfl⟩ (fun qwa qgi qlo qtu H locs hP hD hS => ?_)
  rw [ut_e56] at hP hD
  refine lv_iload_n hx hb dL_ties_93 rfl (lv_at hl 0 rfl) ?_
  refine lv_iconst (v := 3) hx hb dL_ties_94 (by decide) ?_
  refine lv_icmp_ge (tgt := 103) hx hb dL_ties_95 (by decide) (fun c => absurd c (by decide)) (fun _ => ?_)
  refine lv_bipush (v := 32) hx hb dL_ties_98 (by decide) ?_
  refine lv_goto (tgt := 105) hx hb dL_ties_100 (by decide) ?_
  refine lv_icmp_eq (tgt := 110) hx hb dL_ties_105 (by decide) (fun _ => ?_) (fun c => absurd (by decide) c)
  refine lv_iinc (v := 1) (lv' := [(1, .int 1), (0, .ref h)]) hx hb dL_ties_110 hl (k := 0) rfl (by decide) (by decide) rfl (fun ls hl => ?_)
  refine lv_goto (tgt := 55) hx hb dL_ties_113 (by decide) ?_
  refine lv_iload_n hx hb dL_ties_55 rfl (lv_at hl 0 rfl) ?_
  refine lv_bipush (v := 8) hx hb dL_ties_56 (by decide) ?_
  refine lv_icmp_ge (tgt := 116) hx hb dL_ties_58 (by decide) (fun c => absurd c (by decide)) (fun _ => ?_)
  refine lv_aload_n hx hb dL_ties_61 rfl (lv_at hl 1 rfl) ?_
  refine lv_iload_n hx hb dL_ties_62 rfl (lv_at hl 0 rfl) ?_
  refine lv_bipush (v := 10) hx hb dL_ties_63 (by decide) ?_
  refine lv_bipush (v := 32) hx hb dL_ties_65 (by decide) ?_
  refine lv_iconst (v := 4) hx hb dL_ties_67 (by decide) ?_
  refine lk_park (rest := []) (As := [.int 1, .int 10, .int 32, .int 4]) (v := 2) hC (c_X0_plugIn l dC dI cI cZ h a ut_a21 ut_a22 ut_a24 ut_a25 ut_a26 ut_a27 8 100 0 0 0 0 qwa qgi qlo qtu 8 1 10 32 4 (by decide +kernel) (by decide) ut_e57) ut_e58 (cwV 4 hts gL_ties_X0_plugIn rfl rfl rfl hd_X0_plugIn ⟨Nat.le_of_ble_eq_true rfl, Nat.le_of_ble_eq_true rfl⟩) hK hP hD hS hA rfl rfl hl.1 (Nat.le_of_ble_eq_true rfl) dL_ties_68 rfl ⟨Nat.le_of_ble_eq_true rfl, Nat.le_of_ble_eq_true rfl⟩ (fun qwa qgi qlo qtu H locs hP hD hS => ?_)
  rw [ut_e59, ut_e60, ut_e61] at hP hD
  refine lv_iload_n hx hb dL_ties_71 rfl (lv_at hl 0 rfl) ?_
  refine lv_iconst (v := 4) hx hb dL_ties_72 (by decide) ?_
  refine lv_icmp_ge (tgt := 80) hx hb dL_ties_73 (by decide) (fun c => absurd c (by decide)) (fun _ => ?_)
  refine lv_iconst (v := 2) hx hb dL_ties_76 (by decide) ?_
  refine lv_goto (tgt := 81) hx hb dL_ties_77 (by decide) ?_
  refine lv_icmp_ne (tgt := 108) hx hb dL_ties_81 (by decide) (fun c => absurd (by decide) c) (fun _ => ?_)
  refine lv_aload_n hx hb dL_ties_84 rfl (lv_at hl 1 rfl) ?_
  refine lv_iload_n hx hb dL_ties_85 rfl (lv_at hl 0 rfl) ?_
  refine lv_iconst (v := 3) hx hb dL_ties_86 (by decide) ?_
  refine lv_irem hx hb dL_ties_87 (by decide) ?_
  rw [show (1 - 1 / 3 * 3 : Int32) = 1 from by decide +kernel]
  refine lv_bipush (v := 12) hx hb dL_ties_88 (by decide) ?_
  refine lk_park (rest := []) (As := [.int 1, .int 12]) (v := 32) hC (c_X0_fuse l dC dI cI cZ h a ut_a21 ut_a22 ut_a28 ut_a29 ut_a30 ut_a27 8 100 0 0 0 0 qwa qgi qlo qtu 1 12 ut_e62) ut_e63 (cwV 2 hts gL_ties_X0_fuse rfl rfl rfl hd_X0_fuse ⟨Nat.le_of_ble_eq_true rfl, Nat.le_of_ble_eq_true rfl⟩) hK hP hD hS hA rfl rfl hl.1 (Nat.le_of_ble_eq_true rfl) dL_ties_90 rfl ⟨Nat.le_of_ble_eq_true rfl, Nat.le_of_ble_eq_true rfl⟩ (fun qwa qgi qlo qtu H locs hP hD hS => ?_)
  rw [ut_e64] at hP hD
  refine lv_iload_n hx hb dL_ties_93 rfl (lv_at hl 0 rfl) ?_
  refine lv_iconst (v := 3) hx hb dL_ties_94 (by decide) ?_
  refine lv_icmp_ge (tgt := 103) hx hb dL_ties_95 (by decide) (fun c => absurd c (by decide)) (fun _ => ?_)
  refine lv_bipush (v := 32) hx hb dL_ties_98 (by decide) ?_
  refine lv_goto (tgt := 105) hx hb dL_ties_100 (by decide) ?_
  refine lv_icmp_eq (tgt := 110) hx hb dL_ties_105 (by decide) (fun _ => ?_) (fun c => absurd (by decide) c)
  refine lv_iinc (v := 2) (lv' := [(1, .int 2), (0, .ref h)]) hx hb dL_ties_110 hl (k := 0) rfl (by decide) (by decide) rfl (fun ls hl => ?_)
  refine lv_goto (tgt := 55) hx hb dL_ties_113 (by decide) ?_
  refine lv_iload_n hx hb dL_ties_55 rfl (lv_at hl 0 rfl) ?_
  refine lv_bipush (v := 8) hx hb dL_ties_56 (by decide) ?_
  refine lv_icmp_ge (tgt := 116) hx hb dL_ties_58 (by decide) (fun c => absurd c (by decide)) (fun _ => ?_)
  refine lv_aload_n hx hb dL_ties_61 rfl (lv_at hl 1 rfl) ?_
  refine lv_iload_n hx hb dL_ties_62 rfl (lv_at hl 0 rfl) ?_
  refine lv_bipush (v := 10) hx hb dL_ties_63 (by decide) ?_
  refine lv_bipush (v := 32) hx hb dL_ties_65 (by decide) ?_
  refine lv_iconst (v := 4) hx hb dL_ties_67 (by decide) ?_
  refine lk_park (rest := []) (As := [.int 2, .int 10, .int 32, .int 4]) (v := 2) hC (c_X0_plugIn l dC dI cI cZ h a ut_a21 ut_a22 ut_a28 ut_a29 ut_a30 ut_a31 8 100 0 0 0 0 qwa qgi qlo qtu 8 2 10 32 4 (by decide +kernel) (by decide) ut_e65) ut_e66 (cwV 4 hts gL_ties_X0_plugIn rfl rfl rfl hd_X0_plugIn ⟨Nat.le_of_ble_eq_true rfl, Nat.le_of_ble_eq_true rfl⟩) hK hP hD hS hA rfl rfl hl.1 (Nat.le_of_ble_eq_true rfl) dL_ties_68 rfl ⟨Nat.le_of_ble_eq_true rfl, Nat.le_of_ble_eq_true rfl⟩ (fun qwa qgi qlo qtu H locs hP hD hS => ?_)
  rw [ut_e67, ut_e68, ut_e69] at hP hD
  refine lv_iload_n hx hb dL_ties_71 rfl (lv_at hl 0 rfl) ?_
  refine lv_iconst (v := 4) hx hb dL_ties_72 (by decide) ?_
  refine lv_icmp_ge (tgt := 80) hx hb dL_ties_73 (by decide) (fun c => absurd c (by decide)) (fun _ => ?_)
  refine lv_iconst (v := 2) hx hb dL_ties_76 (by decide) ?_
  refine lv_goto (tgt := 81) hx hb dL_ties_77 (by decide) ?_
  refine lv_icmp_ne (tgt := 108) hx hb dL_ties_81 (by decide) (fun c => absurd (by decide) c) (fun _ => ?_)
  refine lv_aload_n hx hb dL_ties_84 rfl (lv_at hl 1 rfl) ?_
  refine lv_iload_n hx hb dL_ties_85 rfl (lv_at hl 0 rfl) ?_
  refine lv_iconst (v := 3) hx hb dL_ties_86 (by decide) ?_
  refine lv_irem hx hb dL_ties_87 (by decide) ?_
  rw [show (2 - 2 / 3 * 3 : Int32) = 2 from by decide +kernel]
  refine lv_bipush (v := 12) hx hb dL_ties_88 (by decide) ?_
  refine lk_park (rest := []) (As := [.int 2, .int 12]) (v := 32) hC (c_X0_fuse l dC dI cI cZ h a ut_a21 ut_a22 ut_a32 ut_a33 ut_a34 ut_a31 8 100 0 0 0 0 qwa qgi qlo qtu 2 12 ut_e70) ut_e71 (cwV 2 hts gL_ties_X0_fuse rfl rfl rfl hd_X0_fuse ⟨Nat.le_of_ble_eq_true rfl, Nat.le_of_ble_eq_true rfl⟩) hK hP hD hS hA rfl rfl hl.1 (Nat.le_of_ble_eq_true rfl) dL_ties_90 rfl ⟨Nat.le_of_ble_eq_true rfl, Nat.le_of_ble_eq_true rfl⟩ (fun qwa qgi qlo qtu H locs hP hD hS => ?_)
  rw [ut_e72] at hP hD
  refine lv_iload_n hx hb dL_ties_93 rfl (lv_at hl 0 rfl) ?_
  refine lv_iconst (v := 3) hx hb dL_ties_94 (by decide) ?_
  refine lv_icmp_ge (tgt := 103) hx hb dL_ties_95 (by decide) (fun c => absurd c (by decide)) (fun _ => ?_)
  refine lv_bipush (v := 32) hx hb dL_ties_98 (by decide) ?_
  refine lv_goto (tgt := 105) hx hb dL_ties_100 (by decide) ?_
  refine lv_icmp_eq (tgt := 110) hx hb dL_ties_105 (by decide) (fun _ => ?_) (fun c => absurd (by decide) c)
  refine lv_iinc (v := 3) (lv' := [(1, .int 3), (0, .ref h)]) hx hb dL_ties_110 hl (k := 0) rfl (by decide) (by decide) rfl (fun ls hl => ?_)
  refine lv_goto (tgt := 55) hx hb dL_ties_113 (by decide) ?_
  refine lv_iload_n hx hb dL_ties_55 rfl (lv_at hl 0 rfl) ?_
  refine lv_bipush (v := 8) hx hb dL_ties_56 (by decide) ?_
  refine lv_icmp_ge (tgt := 116) hx hb dL_ties_58 (by decide) (fun c => absurd c (by decide)) (fun _ => ?_)
  refine lv_aload_n hx hb dL_ties_61 rfl (lv_at hl 1 rfl) ?_
  refine lv_iload_n hx hb dL_ties_62 rfl (lv_at hl 0 rfl) ?_
  refine lv_bipush (v := 10) hx hb dL_ties_63 (by decide) ?_
  refine lv_bipush (v := 32) hx hb dL_ties_65 (by decide) ?_
  refine lv_iconst (v := 4) hx hb dL_ties_67 (by decide) ?_
  refine lk_park (rest := []) (As := [.int 3, .int 10, .int 32, .int 4]) (v := 2) hC (c_X0_plugIn l dC dI cI cZ h a ut_a21 ut_a22 ut_a32 ut_a33 ut_a34 ut_a35 8 100 0 0 0 0 qwa qgi qlo qtu 8 3 10 32 4 (by decide +kernel) (by decide) ut_e73) ut_e74 (cwV 4 hts gL_ties_X0_plugIn rfl rfl rfl hd_X0_plugIn ⟨Nat.le_of_ble_eq_true rfl, Nat.le_of_ble_eq_true rfl⟩) hK hP hD hS hA rfl rfl hl.1 (Nat.le_of_ble_eq_true rfl) dL_ties_68 rfl ⟨Nat.le_of_ble_eq_true rfl, Nat.le_of_ble_eq_true rfl⟩ (fun qwa qgi qlo qtu H locs hP hD hS => ?_)
  rw [ut_e75, ut_e76, ut_e77] at hP hD
  refine lv_iload_n hx hb dL_ties_71 rfl (lv_at hl 0 rfl) ?_
  refine lv_iconst (v := 4) hx hb dL_ties_72 (by decide) ?_
  refine lv_icmp_ge (tgt := 80) hx hb dL_ties_73 (by decide) (fun c => absurd c (by decide)) (fun _ => ?_)
  refine lv_iconst (v := 2) hx hb dL_ties_76 (by decide) ?_
  refine lv_goto (tgt := 81) hx hb dL_ties_77 (by decide) ?_
  refine lv_icmp_ne (tgt := 108) hx hb dL_ties_81 (by decide) (fun c => absurd (by decide) c) (fun _ => ?_)
  refine lv_aload_n hx hb dL_ties_84 rfl (lv_at hl 1 rfl) ?_
  refine lv_iload_n hx hb dL_ties_85 rfl (lv_at hl 0 rfl) ?_
  refine lv_iconst (v := 3) hx hb dL_ties_86 (by decide) ?_
  refine lv_irem hx hb dL_ties_87 (by decide) ?_
  rw [show (3 - 3 / 3 * 3 : Int32) = 0 from by decide +kernel]
  refine lv_bipush (v := 12) hx hb dL_ties_88 (by decide) ?_
  refine lk_park (rest := []) (As := [.int 0, .int 12]) (v := 12) hC (c_X0_fuse l dC dI cI cZ h a ut_a21 ut_a22 ut_a36 ut_a37 ut_a38 ut_a35 8 100 0 0 0 0 qwa qgi qlo qtu 0 12 ut_e78) ut_e79 (cwV 2 hts gL_ties_X0_fuse rfl rfl rfl hd_X0_fuse ⟨Nat.le_of_ble_eq_true rfl, Nat.le_of_ble_eq_true rfl⟩) hK hP hD hS hA rfl rfl hl.1 (Nat.le_of_ble_eq_true rfl) dL_ties_90 rfl ⟨Nat.le_of_ble_eq_true rfl, Nat.le_of_ble_eq_true rfl⟩ (fun qwa qgi qlo qtu H locs hP hD hS => ?_)
  rw [ut_e80] at hP hD
  refine lv_iload_n hx hb dL_ties_93 rfl (lv_at hl 0 rfl) ?_
  refine lv_iconst (v := 3) hx hb dL_ties_94 (by decide) ?_
  refine lv_icmp_ge (tgt := 103) hx hb dL_ties_95 (by decide) (fun _ => ?_) (fun c => absurd (by decide) c)
  refine lv_bipush (v := 12) hx hb dL_ties_103 (by decide) ?_
  refine lv_icmp_eq (tgt := 110) hx hb dL_ties_105 (by decide) (fun _ => ?_) (fun c => absurd (by decide) c)
  refine lv_iinc (v := 4) (lv' := [(1, .int 4), (0, .ref h)]) hx hb dL_ties_110 hl (k := 0) rfl (by decide) (by decide) rfl (fun ls hl => ?_)
  refine lv_goto (tgt := 55) hx hb dL_ties_113 (by decide) ?_
  refine lv_iload_n hx hb dL_ties_55 rfl (lv_at hl 0 rfl) ?_
  refine lv_bipush (v := 8) hx hb dL_ties_56 (by decide) ?_
  refine lv_icmp_ge (tgt := 116) hx hb dL_ties_58 (by decide) (fun c => absurd c (by decide)) (fun _ => ?_)
  refine lv_aload_n hx hb dL_ties_61 rfl (lv_at hl 1 rfl) ?_
  refine lv_iload_n hx hb dL_ties_62 rfl (lv_at hl 0 rfl) ?_
  refine lv_bipush (v := 10) hx hb dL_ties_63 (by decide) ?_
  refine lv_bipush (v := 32) hx hb dL_ties_65 (by decide) ?_
  refine lv_iconst (v := 4) hx hb dL_ties_67 (by decide) ?_
  refine lk_park (rest := []) (As := [.int 4, .int 10, .int 32, .int 4]) (v := 3) hC (c_X0_plugIn l dC dI cI cZ h a ut_a21 ut_a22 ut_a36 ut_a37 ut_a38 ut_a39 8 100 0 0 0 0 qwa qgi qlo qtu 8 4 10 32 4 (by decide +kernel) (by decide) ut_e81) ut_e82 (cwV 4 hts gL_ties_X0_plugIn rfl rfl rfl hd_X0_plugIn ⟨Nat.le_of_ble_eq_true rfl, Nat.le_of_ble_eq_true rfl⟩) hK hP hD hS hA rfl rfl hl.1 (Nat.le_of_ble_eq_true rfl) dL_ties_68 rfl ⟨Nat.le_of_ble_eq_true rfl, Nat.le_of_ble_eq_true rfl⟩ (fun qwa qgi qlo qtu H locs hP hD hS => ?_)
  rw [ut_e83, ut_e84, ut_e85] at hP hD
  refine lv_iload_n hx hb dL_ties_71 rfl (lv_at hl 0 rfl) ?_
  refine lv_iconst (v := 4) hx hb dL_ties_72 (by decide) ?_
  refine lv_icmp_ge (tgt := 80) hx hb dL_ties_73 (by decide) (fun _ => ?_) (fun c => absurd (by decide) c)
  refine lv_iconst (v := 3) hx hb dL_ties_80 (by decide) ?_
  refine lv_icmp_ne (tgt := 108) hx hb dL_ties_81 (by decide) (fun c => absurd (by decide) c) (fun _ => ?_)
  refine lv_aload_n hx hb dL_ties_84 rfl (lv_at hl 1 rfl) ?_
  refine lv_iload_n hx hb dL_ties_85 rfl (lv_at hl 0 rfl) ?_
  refine lv_iconst (v := 3) hx hb dL_ties_86 (by decide) ?_
  refine lv_irem hx hb dL_ties_87 (by decide) ?_
  rw [show (4 - 4 / 3 * 3 : Int32) = 1 from by decide +kernel]
  refine lv_bipush (v := 12) hx hb dL_ties_88 (by decide) ?_
  refine lk_park (rest := []) (As := [.int 1, .int 12]) (v := 12) hC (c_X0_fuse l dC dI cI cZ h a ut_a21 ut_a22 ut_a40 ut_a41 ut_a42 ut_a39 8 100 0 0 0 0 qwa qgi qlo qtu 1 12 ut_e86) ut_e87 (cwV 2 hts gL_ties_X0_fuse rfl rfl rfl hd_X0_fuse ⟨Nat.le_of_ble_eq_true rfl, Nat.le_of_ble_eq_true rfl⟩) hK hP hD hS hA rfl rfl hl.1 (Nat.le_of_ble_eq_true rfl) dL_ties_90 rfl ⟨Nat.le_of_ble_eq_true rfl, Nat.le_of_ble_eq_true rfl⟩ (fun qwa qgi qlo qtu H locs hP hD hS => ?_)
  rw [ut_e88] at hP hD
  refine lv_iload_n hx hb dL_ties_93 rfl (lv_at hl 0 rfl) ?_
  refine lv_iconst (v := 3) hx hb dL_ties_94 (by decide) ?_
  refine lv_icmp_ge (tgt := 103) hx hb dL_ties_95 (by decide) (fun _ => ?_) (fun c => absurd (by decide) c)
  refine lv_bipush (v := 12) hx hb dL_ties_103 (by decide) ?_
  refine lv_icmp_eq (tgt := 110) hx hb dL_ties_105 (by decide) (fun _ => ?_) (fun c => absurd (by decide) c)
  refine lv_iinc (v := 5) (lv' := [(1, .int 5), (0, .ref h)]) hx hb dL_ties_110 hl (k := 0) rfl (by decide) (by decide) rfl (fun ls hl => ?_)
  refine lv_goto (tgt := 55) hx hb dL_ties_113 (by decide) ?_
  refine lv_iload_n hx hb dL_ties_55 rfl (lv_at hl 0 rfl) ?_
  refine lv_bipush (v := 8) hx hb dL_ties_56 (by decide) ?_
  refine lv_icmp_ge (tgt := 116) hx hb dL_ties_58 (by decide) (fun c => absurd c (by decide)) (fun _ => ?_)
  refine lv_aload_n hx hb dL_ties_61 rfl (lv_at hl 1 rfl) ?_
  refine lv_iload_n hx hb dL_ties_62 rfl (lv_at hl 0 rfl) ?_
  refine lv_bipush (v := 10) hx hb dL_ties_63 (by decide) ?_
  refine lv_bipush (v := 32) hx hb dL_ties_65 (by decide) ?_
  refine lv_iconst (v := 4) hx hb dL_ties_67 (by decide) ?_
  refine lk_park (rest := []) (As := [.int 5, .int 10, .int 32, .int 4]) (v := 3) hC (c_X0_plugIn l dC dI cI cZ h a ut_a21 ut_a22 ut_a40 ut_a41 ut_a42 ut_a43 8 100 0 0 0 0 qwa qgi qlo qtu 8 5 10 32 4 (by decide +kernel) (by decide) ut_e89) ut_e90 (cwV 4 hts gL_ties_X0_plugIn rfl rfl rfl hd_X0_plugIn ⟨Nat.le_of_ble_eq_true rfl, Nat.le_of_ble_eq_true rfl⟩) hK hP hD hS hA rfl rfl hl.1 (Nat.le_of_ble_eq_true rfl) dL_ties_68 rfl ⟨Nat.le_of_ble_eq_true rfl, Nat.le_of_ble_eq_true rfl⟩ (fun qwa qgi qlo qtu H locs hP hD hS => ?_)
  rw [ut_e91, ut_e92, ut_e93] at hP hD
  refine lv_iload_n hx hb dL_ties_71 rfl (lv_at hl 0 rfl) ?_
  refine lv_iconst (v := 4) hx hb dL_ties_72 (by decide) ?_
  refine lv_icmp_ge (tgt := 80) hx hb dL_ties_73 (by decide) (fun _ => ?_) (fun c => absurd (by decide) c)
  refine lv_iconst (v := 3) hx hb dL_ties_80 (by decide) ?_
  refine lv_icmp_ne (tgt := 108) hx hb dL_ties_81 (by decide) (fun c => absurd (by decide) c) (fun _ => ?_)
  refine lv_aload_n hx hb dL_ties_84 rfl (lv_at hl 1 rfl) ?_
  refine lv_iload_n hx hb dL_ties_85 rfl (lv_at hl 0 rfl) ?_
  refine lv_iconst (v := 3) hx hb dL_ties_86 (by decide) ?_
  refine lv_irem hx hb dL_ties_87 (by decide) ?_
  rw [show (5 - 5 / 3 * 3 : Int32) = 2 from by decide +kernel]
  refine lv_bipush (v := 12) hx hb dL_ties_88 (by decide) ?_
  refine lk_park (rest := []) (As := [.int 2, .int 12]) (v := 12) hC (c_X0_fuse l dC dI cI cZ h a ut_a21 ut_a22 ut_a44 ut_a45 ut_a46 ut_a43 8 100 0 0 0 0 qwa qgi qlo qtu 2 12 ut_e94) ut_e95 (cwV 2 hts gL_ties_X0_fuse rfl rfl rfl hd_X0_fuse ⟨Nat.le_of_ble_eq_true rfl, Nat.le_of_ble_eq_true rfl⟩) hK hP hD hS hA rfl rfl hl.1 (Nat.le_of_ble_eq_true rfl) dL_ties_90 rfl ⟨Nat.le_of_ble_eq_true rfl, Nat.le_of_ble_eq_true rfl⟩ (fun qwa qgi qlo qtu H locs hP hD hS => ?_)
  rw [ut_e96] at hP hD
  refine lv_iload_n hx hb dL_ties_93 rfl (lv_at hl 0 rfl) ?_
  refine lv_iconst (v := 3) hx hb dL_ties_94 (by decide) ?_
  refine lv_icmp_ge (tgt := 103) hx hb dL_ties_95 (by decide) (fun _ => ?_) (fun c => absurd (by decide) c)
  refine lv_bipush (v := 12) hx hb dL_ties_103 (by decide) ?_
  refine lv_icmp_eq (tgt := 110) hx hb dL_ties_105 (by decide) (fun _ => ?_) (fun c => absurd (by decide) c)
  refine lv_iinc (v := 6) (lv' := [(1, .int 6), (0, .ref h)]) hx hb dL_ties_110 hl (k := 0) rfl (by decide) (by decide) rfl (fun ls hl => ?_)
  refine lv_goto (tgt := 55) hx hb dL_ties_113 (by decide) ?_
  refine lv_iload_n hx hb dL_ties_55 rfl (lv_at hl 0 rfl) ?_
  refine lv_bipush (v := 8) hx hb dL_ties_56 (by decide) ?_
  refine lv_icmp_ge (tgt := 116) hx hb dL_ties_58 (by decide) (fun c => absurd c (by decide)) (fun _ => ?_)
  refine lv_aload_n hx hb dL_ties_61 rfl (lv_at hl 1 rfl) ?_
  refine lv_iload_n hx hb dL_ties_62 rfl (lv_at hl 0 rfl) ?_
  refine lv_bipush (v := 10) hx hb dL_ties_63 (by decide) ?_
  refine lv_bipush (v := 32) hx hb dL_ties_65 (by decide) ?_
  refine lv_iconst (v := 4) hx hb dL_ties_67 (by decide) ?_
  refine lk_park (rest := []) (As := [.int 6, .int 10, .int 32, .int 4]) (v := 3) hC (c_X0_plugIn l dC dI cI cZ h a ut_a21 ut_a22 ut_a44 ut_a45 ut_a46 ut_a47 8 100 0 0 0 0 qwa qgi qlo qtu 8 6 10 32 4 (by decide +kernel) (by decide) ut_e97) ut_e98 (cwV 4 hts gL_ties_X0_plugIn rfl rfl rfl hd_X0_plugIn ⟨Nat.le_of_ble_eq_true rfl, Nat.le_of_ble_eq_true rfl⟩) hK hP hD hS hA rfl rfl hl.1 (Nat.le_of_ble_eq_true rfl) dL_ties_68 rfl ⟨Nat.le_of_ble_eq_true rfl, Nat.le_of_ble_eq_true rfl⟩ (fun qwa qgi qlo qtu H locs hP hD hS => ?_)
  rw [ut_e99, ut_e100, ut_e101] at hP hD
  refine lv_iload_n hx hb dL_ties_71 rfl (lv_at hl 0 rfl) ?_
  refine lv_iconst (v := 4) hx hb dL_ties_72 (by decide) ?_
  refine lv_icmp_ge (tgt := 80) hx hb dL_ties_73 (by decide) (fun _ => ?_) (fun c => absurd (by decide) c)
  refine lv_iconst (v := 3) hx hb dL_ties_80 (by decide) ?_
  refine lv_icmp_ne (tgt := 108) hx hb dL_ties_81 (by decide) (fun c => absurd (by decide) c) (fun _ => ?_)
  refine lv_aload_n hx hb dL_ties_84 rfl (lv_at hl 1 rfl) ?_
  refine lv_iload_n hx hb dL_ties_85 rfl (lv_at hl 0 rfl) ?_
  refine lv_iconst (v := 3) hx hb dL_ties_86 (by decide) ?_
  refine lv_irem hx hb dL_ties_87 (by decide) ?_
  rw [show (6 - 6 / 3 * 3 : Int32) = 0 from by decide +kernel]
  refine lv_bipush (v := 12) hx hb dL_ties_88 (by decide) ?_
  refine lk_park (rest := []) (As := [.int 0, .int 12]) (v := 12) hC (c_X0_fuse l dC dI cI cZ h a ut_a21 ut_a22 ut_a48 ut_a49 ut_a50 ut_a47 8 100 0 0 0 0 qwa qgi qlo qtu 0 12 ut_e102) ut_e103 (cwV 2 hts gL_ties_X0_fuse rfl rfl rfl hd_X0_fuse ⟨Nat.le_of_ble_eq_true rfl, Nat.le_of_ble_eq_true rfl⟩) hK hP hD hS hA rfl rfl hl.1 (Nat.le_of_ble_eq_true rfl) dL_ties_90 rfl ⟨Nat.le_of_ble_eq_true rfl, Nat.le_of_ble_eq_true rfl⟩ (fun qwa qgi qlo qtu H locs hP hD hS => ?_)
  rw [ut_e104] at hP hD
  refine lv_iload_n hx hb dL_ties_93 rfl (lv_at hl 0 rfl) ?_
  refine lv_iconst (v := 3) hx hb dL_ties_94 (by decide) ?_
  refine lv_icmp_ge (tgt := 103) hx hb dL_ties_95 (by decide) (fun _ => ?_) (fun c => absurd (by decide) c)
  refine lv_bipush (v := 12) hx hb dL_ties_103 (by decide) ?_
  refine lv_icmp_eq (tgt := 110) hx hb dL_ties_105 (by decide) (fun _ => ?_) (fun c => absurd (by decide) c)
  refine lv_iinc (v := 7) (lv' := [(1, .int 7), (0, .ref h)]) hx hb dL_ties_110 hl (k := 0) rfl (by decide) (by decide) rfl (fun ls hl => ?_)
  refine lv_goto (tgt := 55) hx hb dL_ties_113 (by decide) ?_
  refine lv_iload_n hx hb dL_ties_55 rfl (lv_at hl 0 rfl) ?_
  refine lv_bipush (v := 8) hx hb dL_ties_56 (by decide) ?_
  refine lv_icmp_ge (tgt := 116) hx hb dL_ties_58 (by decide) (fun c => absurd c (by decide)) (fun _ => ?_)
  refine lv_aload_n hx hb dL_ties_61 rfl (lv_at hl 1 rfl) ?_
  refine lv_iload_n hx hb dL_ties_62 rfl (lv_at hl 0 rfl) ?_
  refine lv_bipush (v := 10) hx hb dL_ties_63 (by decide) ?_
  refine lv_bipush (v := 32) hx hb dL_ties_65 (by decide) ?_
  refine lv_iconst (v := 4) hx hb dL_ties_67 (by decide) ?_
  refine lk_park (rest := []) (As := [.int 7, .int 10, .int 32, .int 4]) (v := 3) hC (c_X0_plugIn l dC dI cI cZ h a ut_a21 ut_a22 ut_a48 ut_a49 ut_a50 ut_a51 8 100 0 0 0 0 qwa qgi qlo qtu 8 7 10 32 4 (by decide +kernel) (by decide) ut_e105) ut_e106 (cwV 4 hts gL_ties_X0_plugIn rfl rfl rfl hd_X0_plugIn ⟨Nat.le_of_ble_eq_true rfl, Nat.le_of_ble_eq_true rfl⟩) hK hP hD hS hA rfl rfl hl.1 (Nat.le_of_ble_eq_true rfl) dL_ties_68 rfl ⟨Nat.le_of_ble_eq_true rfl, Nat.le_of_ble_eq_true rfl⟩ (fun qwa qgi qlo qtu H locs hP hD hS => ?_)
  rw [ut_e107, ut_e108, ut_e109] at hP hD
  refine lv_iload_n hx hb dL_ties_71 rfl (lv_at hl 0 rfl) ?_
  refine lv_iconst (v := 4) hx hb dL_ties_72 (by decide) ?_
  refine lv_icmp_ge (tgt := 80) hx hb dL_ties_73 (by decide) (fun _ => ?_) (fun c => absurd (by decide) c)
  refine lv_iconst (v := 3) hx hb dL_ties_80 (by decide) ?_
  refine lv_icmp_ne (tgt := 108) hx hb dL_ties_81 (by decide) (fun c => absurd (by decide) c) (fun _ => ?_)
  refine lv_aload_n hx hb dL_ties_84 rfl (lv_at hl 1 rfl) ?_
  refine lv_iload_n hx hb dL_ties_85 rfl (lv_at hl 0 rfl) ?_
  refine lv_iconst (v := 3) hx hb dL_ties_86 (by decide) ?_
  refine lv_irem hx hb dL_ties_87 (by decide) ?_
  rw [show (7 - 7 / 3 * 3 : Int32) = 1 from by decide +kernel]
  refine lv_bipush (v := 12) hx hb dL_ties_88 (by decide) ?_
  refine lk_park (rest := []) (As := [.int 1, .int 12]) (v := 12) hC (c_X0_fuse l dC dI cI cZ h a ut_a21 ut_a22 ut_a52 ut_a53 ut_a54 ut_a51 8 100 0 0 0 0 qwa qgi qlo qtu 1 12 ut_e110) ut_e111 (cwV 2 hts gL_ties_X0_fuse rfl rfl rfl hd_X0_fuse ⟨Nat.le_of_ble_eq_true rfl, Nat.le_of_ble_eq_true rfl⟩) hK hP hD hS hA rfl rfl hl.1 (Nat.le_of_ble_eq_true rfl) dL_ties_90 rfl ⟨Nat.le_of_ble_eq_true rfl, Nat.le_of_ble_eq_true rfl⟩ (fun qwa qgi qlo qtu H locs hP hD hS => ?_)
  rw [ut_e112] at hP hD
  refine lv_iload_n hx hb dL_ties_93 rfl (lv_at hl 0 rfl) ?_
  refine lv_iconst (v := 3) hx hb dL_ties_94 (by decide) ?_
  refine lv_icmp_ge (tgt := 103) hx hb dL_ties_95 (by decide) (fun _ => ?_) (fun c => absurd (by decide) c)
  refine lv_bipush (v := 12) hx hb dL_ties_103 (by decide) ?_
  refine lv_icmp_eq (tgt := 110) hx hb dL_ties_105 (by decide) (fun _ => ?_) (fun c => absurd (by decide) c)
  refine lv_iinc (v := 8) (lv' := [(1, .int 8), (0, .ref h)]) hx hb dL_ties_110 hl (k := 0) rfl (by decide) (by decide) rfl (fun ls hl => ?_)
  refine lv_goto (tgt := 55) hx hb dL_ties_113 (by decide) ?_
  refine lv_iload_n hx hb dL_ties_55 rfl (lv_at hl 0 rfl) ?_
  refine lv_bipush (v := 8) hx hb dL_ties_56 (by decide) ?_
  refine lv_icmp_ge (tgt := 116) hx hb dL_ties_58 (by decide) (fun _ => ?_) (fun c => absurd (by decide) c)
  refine lv_aload_n hx hb dL_ties_116 rfl (lv_at hl 1 rfl) ?_
  refine lv_bipush (v := 6) hx hb dL_ties_117 (by decide) ?_
  refine lv_bipush (v := 7) hx hb dL_ties_119 (by decide) ?_
  refine lv_bipush (v := 8) hx hb dL_ties_121 (by decide) ?_
  refine lv_bipush (v := 6) hx hb dL_ties_123 (by decide) ?_
  refine lk_call (rest := []) (As := [.ref h, .int 6, .int 7, .int 8, .int 6]) hC (c_L_gives l dC dI cI cZ h a ut_a21 ut_a22 ut_a52 ut_a53 ut_a54 ut_a55 8 100 0 0 0 0 qwa qgi qlo qtu 8 6 7 8 6 (by decide +kernel) (by decide) ut_e113 ut_e115 ut_e116 ut_e117 ut_e118 ut_e119 ut_e120 ut_e121) (va_cwS 5 hts gL_ties_L_gives rfl rfl rfl hd_L_gives ⟨Nat.le_of_ble_eq_true rfl, Nat.le_of_ble_eq_true rfl⟩) hK hNs hZ hP hD hS hA rfl hl.1 (Nat.le_of_ble_eq_true rfl) dL_ties_125 rfl ⟨Nat.le_of_ble_eq_true rfl, Nat.le_of_ble_eq_true rfl⟩ (fun w2 H locs hB hP hD hS => ?_)
  obtain ⟨qwa, qgi, qlo, qtu, rfl⟩ := hB
  refine lv_if_eq (tgt := 353) hx hb dL_ties_128 (by decide) (fun c => absurd c (by decide)) (fun _ => ?_)
  refine lv_aload_n hx hb dL_ties_131 rfl (lv_at hl 1 rfl) ?_
  refine lv_iconst (v := 4) hx hb dL_ties_132 (by decide) ?_
  refine lk_park (rest := []) (As := [.int 4]) (v := 5) hC (c_X0_current l dC dI cI cZ h a ut_a21 ut_a22 ut_a52 ut_a53 ut_a54 ut_a55 8 100 0 0 0 0 qwa qgi qlo qtu 8 4 (by decide +kernel) (by decide) ut_e122) (ut_e123 _ _ _ _) (cwV 1 hts gL_ties_X0_current rfl rfl rfl hd_X0_current ⟨Nat.le_of_ble_eq_true rfl, Nat.le_of_ble_eq_true rfl⟩) hK hP hD hS hA rfl rfl hl.1 (Nat.le_of_ble_eq_true rfl) dL_ties_133 rfl ⟨Nat.le_of_ble_eq_true rfl, Nat.le_of_ble_eq_true rfl⟩ (fun qwa qgi qlo qtu H locs hP hD hS => ?_)
  refine lv_iconst (v := 5) hx hb dL_ties_136 (by decide) ?_
  refine lv_icmp_ne (tgt := 353) hx hb dL_ties_137 (by decide) (fun c => absurd (by decide) c) (fun _ => ?_)
  refine lv_aload_n hx hb dL_ties_140 rfl (lv_at hl 1 rfl) ?_
  refine lv_iconst (v := 5) hx hb dL_ties_141 (by decide) ?_
  refine lk_park (rest := []) (As := [.int 5]) (v := 4) hC (c_X0_current l dC dI cI cZ h a ut_a21 ut_a22 ut_a52 ut_a53 ut_a54 ut_a55 8 100 0 0 0 0 qwa qgi qlo qtu 8 5 (by decide +kernel) (by decide) ut_e124) (ut_e125 _ _ _ _) (cwV 1 hts gL_ties_X0_current rfl rfl rfl hd_X0_current ⟨Nat.le_of_ble_eq_true rfl, Nat.le_of_ble_eq_true rfl⟩) hK hP hD hS hA rfl rfl hl.1 (Nat.le_of_ble_eq_true rfl) dL_ties_142 rfl ⟨Nat.le_of_ble_eq_true rfl, Nat.le_of_ble_eq_true rfl⟩ (fun qwa qgi qlo qtu H locs hP hD hS => ?_)
  refine lv_iconst (v := 4) hx hb dL_ties_145 (by decide) ?_
  refine lv_icmp_ne (tgt := 353) hx hb dL_ties_146 (by decide) (fun c => absurd (by decide) c) (fun _ => ?_)
  refine lv_aload_n hx hb dL_ties_149 rfl (lv_at hl 1 rfl) ?_
  refine lv_bipush (v := 6) hx hb dL_ties_150 (by decide) ?_
  refine lk_park (rest := []) (As := [.int 6]) (v := 0) hC (c_X0_current l dC dI cI cZ h a ut_a21 ut_a22 ut_a52 ut_a53 ut_a54 ut_a55 8 100 0 0 0 0 qwa qgi qlo qtu 8 6 (by decide +kernel) (by decide) ut_e126) (ut_e127 _ _ _ _) (cwV 1 hts gL_ties_X0_current rfl rfl rfl hd_X0_current ⟨Nat.le_of_ble_eq_true rfl, Nat.le_of_ble_eq_true rfl⟩) hK hP hD hS hA rfl rfl hl.1 (Nat.le_of_ble_eq_true rfl) dL_ties_152 rfl ⟨Nat.le_of_ble_eq_true rfl, Nat.le_of_ble_eq_true rfl⟩ (fun qwa qgi qlo qtu H locs hP hD hS => ?_)
  refine lv_if_ne (tgt := 353) hx hb dL_ties_155 (by decide) (fun c => absurd (by decide) c) (fun _ => ?_)
  refine lv_aload_n hx hb dL_ties_158 rfl (lv_at hl 1 rfl) ?_
  refine lv_bipush (v := 7) hx hb dL_ties_159 (by decide) ?_
  refine lk_park (rest := []) (As := [.int 7]) (v := 0) hC (c_X0_current l dC dI cI cZ h a ut_a21 ut_a22 ut_a52 ut_a53 ut_a54 ut_a55 8 100 0 0 0 0 qwa qgi qlo qtu 8 7 (by decide +kernel) (by decide) ut_e128) (ut_e129 _ _ _ _) (cwV 1 hts gL_ties_X0_current rfl rfl rfl hd_X0_current ⟨Nat.le_of_ble_eq_true rfl, Nat.le_of_ble_eq_true rfl⟩) hK hP hD hS hA rfl rfl hl.1 (Nat.le_of_ble_eq_true rfl) dL_ties_161 rfl ⟨Nat.le_of_ble_eq_true rfl, Nat.le_of_ble_eq_true rfl⟩ (fun qwa qgi qlo qtu H locs hP hD hS => ?_)
  refine lv_if_ne (tgt := 353) hx hb dL_ties_164 (by decide) (fun c => absurd (by decide) c) (fun _ => ?_)
  refine lv_aload_n hx hb dL_ties_167 rfl (lv_at hl 1 rfl) ?_
  refine lk_park (rest := []) (As := []) (v := 248) hC (c_X0_held l dC dI cI cZ h a ut_a21 ut_a22 ut_a52 ut_a53 ut_a54 ut_a55 8 100 0 0 0 0 qwa qgi qlo qtu 8 (by decide +kernel) (by decide)) (ut_e130 _ _ _ _) (cwV 0 hts gL_ties_X0_held rfl rfl rfl hd_X0_held ⟨Nat.le_of_ble_eq_true rfl, Nat.le_of_ble_eq_true rfl⟩) hK hP hD hS hA rfl rfl hl.1 (Nat.le_of_ble_eq_true rfl) dL_ties_168 rfl ⟨Nat.le_of_ble_eq_true rfl, Nat.le_of_ble_eq_true rfl⟩ (fun qwa qgi qlo qtu H locs hP hD hS => ?_)
  refine lv_sipush (v := 248) hx hb dL_ties_171 (by decide) ?_
  refine lv_icmp_ne (tgt := 353) hx hb dL_ties_174 (by decide) (fun c => absurd (by decide) c) (fun _ => ?_)
  refine lv_aload_n hx hb dL_ties_177 rfl (lv_at hl 1 rfl) ?_
  refine lv_iconst (v := 4) hx hb dL_ties_178 (by decide) ?_
  refine lk_park (rest := []) (As := [.int 4]) (v := 10) hC (c_X0_reach l dC dI cI cZ h a ut_a21 ut_a22 ut_a52 ut_a53 ut_a54 ut_a55 8 100 0 0 0 0 qwa qgi qlo qtu 8 4 (by decide +kernel) (by decide) ut_e131) ut_e132 (cwV 1 hts gL_ties_X0_reach rfl rfl rfl hd_X0_reach ⟨Nat.le_of_ble_eq_true rfl, Nat.le_of_ble_eq_true rfl⟩) hK hP hD hS hA rfl rfl hl.1 (Nat.le_of_ble_eq_true rfl) dL_ties_179 rfl ⟨Nat.le_of_ble_eq_true rfl, Nat.le_of_ble_eq_true rfl⟩ (fun qwa qgi qlo qtu H locs hP hD hS => ?_)
  refine lv_bipush (v := 10) hx hb dL_ties_182 (by decide) ?_
  refine lv_icmp_ne (tgt := 353) hx hb dL_ties_184 (by decide) (fun c => absurd (by decide) c) (fun _ => ?_)
  refine lv_aload_n hx hb dL_ties_187 rfl (lv_at hl 1 rfl) ?_
  refine lv_iconst (v := 0) hx hb dL_ties_188 (by decide) ?_
  refine lk_park (rest := []) (As := [.int 0]) (v := 4000) hC (c_X0_fairLevel l dC dI cI cZ h a ut_a21 ut_a22 ut_a52 ut_a53 ut_a54 ut_a55 8 100 0 0 0 0 qwa qgi qlo qtu 8 0 (by decide +kernel) (by decide) ut_e133) (ut_e134 _ _ _ _) (cwV 1 hts gL_ties_X0_fairLevel rfl rfl rfl hd_X0_fairLevel ⟨Nat.le_of_ble_eq_true rfl, Nat.le_of_ble_eq_true rfl⟩) hK hP hD hS hA rfl rfl hl.1 (Nat.le_of_ble_eq_true rfl) dL_ties_189 rfl ⟨Nat.le_of_ble_eq_true rfl, Nat.le_of_ble_eq_true rfl⟩ (fun qwa qgi qlo qtu H locs hP hD hS => ?_)
  refine lv_sipush (v := 4000) hx hb dL_ties_192 (by decide) ?_
  refine lv_icmp_ne (tgt := 353) hx hb dL_ties_195 (by decide) (fun c => absurd (by decide) c) (fun _ => ?_)
  refine lv_aload_n hx hb dL_ties_198 rfl (lv_at hl 1 rfl) ?_
  refine lv_iconst (v := 1) hx hb dL_ties_199 (by decide) ?_
  refine lk_park (rest := []) (As := [.int 1]) (v := 4000) hC (c_X0_fairLevel l dC dI cI cZ h a ut_a21 ut_a22 ut_a52 ut_a53 ut_a54 ut_a55 8 100 0 0 0 0 qwa qgi qlo qtu 8 1 (by decide +kernel) (by decide) ut_e135) (ut_e136 _ _ _ _) (cwV 1 hts gL_ties_X0_fairLevel rfl rfl rfl hd_X0_fairLevel ⟨Nat.le_of_ble_eq_true rfl, Nat.le_of_ble_eq_true rfl⟩) hK hP hD hS hA rfl rfl hl.1 (Nat.le_of_ble_eq_true rfl) dL_ties_200 rfl ⟨Nat.le_of_ble_eq_true rfl, Nat.le_of_ble_eq_true rfl⟩ (fun qwa qgi qlo qtu H locs hP hD hS => ?_)
  refine lv_sipush (v := 4000) hx hb dL_ties_203 (by decide) ?_
  refine lv_icmp_ne (tgt := 353) hx hb dL_ties_206 (by decide) (fun c => absurd (by decide) c) (fun _ => ?_)
  refine lv_aload_n hx hb dL_ties_209 rfl (lv_at hl 1 rfl) ?_
  refine lv_iconst (v := 2) hx hb dL_ties_210 (by decide) ?_
  refine lk_park (rest := []) (As := [.int 2]) (v := 6000) hC (c_X0_fairLevel l dC dI cI cZ h a ut_a21 ut_a22 ut_a52 ut_a53 ut_a54 ut_a55 8 100 0 0 0 0 qwa qgi qlo qtu 8 2 (by decide +kernel) (by decide) ut_e137) (ut_e138 _ _ _ _) (cwV 1 hts gL_ties_X0_fairLevel rfl rfl rfl hd_X0_fairLevel ⟨Nat.le_of_ble_eq_true rfl, Nat.le_of_ble_eq_true rfl⟩) hK hP hD hS hA rfl rfl hl.1 (Nat.le_of_ble_eq_true rfl) dL_ties_211 rfl ⟨Nat.le_of_ble_eq_true rfl, Nat.le_of_ble_eq_true rfl⟩ (fun qwa qgi qlo qtu H locs hP hD hS => ?_)
  refine lv_sipush (v := 6000) hx hb dL_ties_214 (by decide) ?_
  refine lv_icmp_ne (tgt := 353) hx hb dL_ties_217 (by decide) (fun c => absurd (by decide) c) (fun _ => ?_)
  refine lv_aload_n hx hb dL_ties_220 rfl (lv_at hl 1 rfl) ?_
  refine lv_iconst (v := 1) hx hb dL_ties_221 (by decide) ?_
  refine lk_park (rest := []) (As := [.int 1]) (v := 0) hC (c_X0_rule l dC dI cI cZ h a ut_a21 ut_a22 ut_a52 ut_a53 ut_a54 ut_a55 8 100 0 0 0 0 qwa qgi qlo qtu 1 ut_e139) ut_e140 (cwV 1 hts gL_ties_X0_rule rfl rfl rfl hd_X0_rule ⟨Nat.le_of_ble_eq_true rfl, Nat.le_of_ble_eq_true rfl⟩) hK hP hD hS hA rfl rfl hl.1 (Nat.le_of_ble_eq_true rfl) dL_ties_222 rfl ⟨Nat.le_of_ble_eq_true rfl, Nat.le_of_ble_eq_true rfl⟩ (fun qwa qgi qlo qtu H locs hP hD hS => ?_)
  rw [ut_e141] at hP hD
  refine lv_if_ne (tgt := 353) hx hb dL_ties_225 (by decide) (fun c => absurd (by decide) c) (fun _ => ?_)
  refine lv_aload_n hx hb dL_ties_228 rfl (lv_at hl 1 rfl) ?_
  refine lv_iconst (v := 4) hx hb dL_ties_229 (by decide) ?_
  refine lv_iconst (v := 4) hx hb dL_ties_230 (by decide) ?_
  refine lv_bipush (v := 6) hx hb dL_ties_231 (by decide) ?_
  refine lv_iconst (v := 4) hx hb dL_ties_233 (by decide) ?_
  refine lk_call (rest := []) (As := [.ref h, .int 4, .int 4, .int 6, .int 4]) hC (c_L_gives l dC dI cI cZ h a ut_a21 ut_a22 ut_a52 ut_a53 ut_a54 ut_a55 8 100 1 0 0 0 qwa qgi qlo qtu 8 4 4 6 4 (by decide +kernel) (by decide) ut_e142 ut_e144 ut_e145 ut_e146 ut_e147 ut_e148 ut_e149 ut_e150) (va_cwS 5 hts gL_ties_L_gives rfl rfl rfl hd_L_gives ⟨Nat.le_of_ble_eq_true rfl, Nat.le_of_ble_eq_true rfl⟩) hK hNs hZ hP hD hS hA rfl hl.1 (Nat.le_of_ble_eq_true rfl) dL_ties_234 rfl ⟨Nat.le_of_ble_eq_true rfl, Nat.le_of_ble_eq_true rfl⟩ (fun w2 H locs hB hP hD hS => ?_)
  obtain ⟨qwa, qgi, qlo, qtu, rfl⟩ := hB
  refine lv_if_eq (tgt := 353) hx hb dL_ties_237 (by decide) (fun c => absurd c (by decide)) (fun _ => ?_)
  refine lv_aload_n hx hb dL_ties_240 rfl (lv_at hl 1 rfl) ?_
  refine lv_bipush (v := 7) hx hb dL_ties_241 (by decide) ?_
  refine lk_park (rest := []) (As := [.int 7]) (v := 4) hC (c_X0_current l dC dI cI cZ h a ut_a21 ut_a22 ut_a52 ut_a53 ut_a54 ut_a55 8 100 1 0 0 0 qwa qgi qlo qtu 8 7 (by decide +kernel) (by decide) ut_e151) (ut_e152 _ _ _ _) (cwV 1 hts gL_ties_X0_current rfl rfl rfl hd_X0_current ⟨Nat.le_of_ble_eq_true rfl, Nat.le_of_ble_eq_true rfl⟩) hK hP hD hS hA rfl rfl hl.1 (Nat.le_of_ble_eq_true rfl) dL_ties_243 rfl ⟨Nat.le_of_ble_eq_true rfl, Nat.le_of_ble_eq_true rfl⟩ (fun qwa qgi qlo qtu H locs hP hD hS => ?_)
  refine lv_iconst (v := 4) hx hb dL_ties_246 (by decide) ?_
  refine lv_icmp_ne (tgt := 353) hx hb dL_ties_247 (by decide) (fun c => absurd (by decide) c) (fun _ => ?_)
  refine lv_aload_n hx hb dL_ties_250 rfl (lv_at hl 1 rfl) ?_
  refine lv_bipush (v := 12) hx hb dL_ties_251 (by decide) ?_
  refine lv_bipush (v := 12) hx hb dL_ties_253 (by decide) ?_
  refine lv_bipush (v := 12) hx hb dL_ties_255 (by decide) ?_
  refine lv_iconst (v := 0) hx hb dL_ties_257 (by decide) ?_
  refine lk_call (rest := []) (As := [.ref h, .int 12, .int 12, .int 12, .int 0]) hC (c_L_loads l dC dI cI cZ h a ut_a21 ut_a22 ut_a52 ut_a53 ut_a54 ut_a55 8 100 1 0 0 0 qwa qgi qlo qtu 8 12 12 12 0 (by decide +kernel) (by decide) ut_e153 ut_e154 ut_e155 ut_e156 ut_e157 ut_e158 ut_e159) (va_cwS 5 hts gL_ties_L_loads rfl rfl rfl hd_L_loads ⟨Nat.le_of_ble_eq_true rfl, Nat.le_of_ble_eq_true rfl⟩) hK hNs hZ hP hD hS hA rfl hl.1 (Nat.le_of_ble_eq_true rfl) dL_ties_258 rfl ⟨Nat.le_of_ble_eq_true rfl, Nat.le_of_ble_eq_true rfl⟩ (fun w2 H locs hB hP hD hS => ?_)
  obtain ⟨qwa, qgi, qlo, qtu, rfl⟩ := hB
  refine lv_if_eq (tgt := 353) hx hb dL_ties_261 (by decide) (fun c => absurd c (by decide)) (fun _ => ?_)
  refine lv_aload_n hx hb dL_ties_264 rfl (lv_at hl 1 rfl) ?_
  refine lv_iconst (v := 0) hx hb dL_ties_265 (by decide) ?_
  refine lk_park (rest := []) (As := [.int 0]) (v := 100) hC (c_X0_balance l dC dI cI cZ h a ut_a21 ut_a22 ut_a52 ut_a53 ut_a54 ut_a55 8 100 1 0 0 0 qwa qgi qlo qtu 0 ut_e160) ut_e161 (cwV 1 hts gL_ties_X0_balance rfl rfl rfl hd_X0_balance ⟨Nat.le_of_ble_eq_true rfl, Nat.le_of_ble_eq_true rfl⟩) hK hP hD hS hA rfl rfl hl.1 (Nat.le_of_ble_eq_true rfl) dL_ties_266 rfl ⟨Nat.le_of_ble_eq_true rfl, Nat.le_of_ble_eq_true rfl⟩ (fun qwa qgi qlo qtu H locs hP hD hS => ?_)
  rw [ut_e162] at hP hD
  refine lv_bipush (v := 100) hx hb dL_ties_269 (by decide) ?_
  refine lv_icmp_ne (tgt := 353) hx hb dL_ties_271 (by decide) (fun c => absurd (by decide) c) (fun _ => ?_)
  refine lv_aload_n hx hb dL_ties_274 rfl (lv_at hl 1 rfl) ?_
  refine lv_bipush (v := 12) hx hb dL_ties_275 (by decide) ?_
  refine lv_bipush (v := 12) hx hb dL_ties_277 (by decide) ?_
  refine lv_bipush (v := 12) hx hb dL_ties_279 (by decide) ?_
  refine lv_iconst (v := 0) hx hb dL_ties_281 (by decide) ?_
  refine lk_call (rest := []) (As := [.ref h, .int 12, .int 12, .int 12, .int 0]) hC (c_L_loads l dC dI cI cZ h a ut_a21 ut_a22 ut_a52 ut_a53 ut_a54 ut_a55 8 0 1 0 0 0 qwa qgi qlo qtu 8 12 12 12 0 (by decide +kernel) (by decide) ut_e163 ut_e165 ut_e166 ut_e167 ut_e168 ut_e169 ut_e170) (va_cwS 5 hts gL_ties_L_loads rfl rfl rfl hd_L_loads ⟨Nat.le_of_ble_eq_true rfl, Nat.le_of_ble_eq_true rfl⟩) hK hNs hZ hP hD hS hA rfl hl.1 (Nat.le_of_ble_eq_true rfl) dL_ties_282 rfl ⟨Nat.le_of_ble_eq_true rfl, Nat.le_of_ble_eq_true rfl⟩ (fun w2 H locs hB hP hD hS => ?_)
  obtain ⟨qwa, qgi, qlo, qtu, rfl⟩ := hB
  refine lv_if_eq (tgt := 353) hx hb dL_ties_285 (by decide) (fun c => absurd c (by decide)) (fun _ => ?_)
  refine lv_aload_n hx hb dL_ties_288 rfl (lv_at hl 1 rfl) ?_
  refine lv_iconst (v := 2) hx hb dL_ties_289 (by decide) ?_
  refine lv_bipush (v := 11) hx hb dL_ties_290 (by decide) ?_
  refine lk_park (rest := []) (As := [.int 2, .int 11]) (v := 12) hC (c_X0_fuse l dC dI cI cZ h a ut_a21 ut_a22 ut_a52 ut_a53 ut_a54 ut_a55 8 0 1 0 0 0 qwa qgi qlo qtu 2 11 ut_e171) ut_e172 (cwV 2 hts gL_ties_X0_fuse rfl rfl rfl hd_X0_fuse ⟨Nat.le_of_ble_eq_true rfl, Nat.le_of_ble_eq_true rfl⟩) hK hP hD hS hA rfl rfl hl.1 (Nat.le_of_ble_eq_true rfl) dL_ties_292 rfl ⟨Nat.le_of_ble_eq_true rfl, Nat.le_of_ble_eq_true rfl⟩ (fun qwa qgi qlo qtu H locs hP hD hS => ?_)
  rw [ut_e173] at hP hD
  refine lv_bipush (v := 12) hx hb dL_ties_295 (by decide) ?_
  refine lv_icmp_ne (tgt := 353) hx hb dL_ties_297 (by decide) (fun c => absurd (by decide) c) (fun _ => ?_)
  refine lv_aload_n hx hb dL_ties_300 rfl (lv_at hl 1 rfl) ?_
  refine lv_bipush (v := 11) hx hb dL_ties_301 (by decide) ?_
  refine lv_bipush (v := 11) hx hb dL_ties_303 (by decide) ?_
  refine lv_bipush (v := 11) hx hb dL_ties_305 (by decide) ?_
  refine lv_iconst (v := 0) hx hb dL_ties_307 (by decide) ?_
  refine lk_call (rest := []) (As := [.ref h, .int 11, .int 11, .int 11, .int 0]) hC (c_L_loads l dC dI cI cZ h a ut_a21 ut_a22 ut_a52 ut_a53 ut_a54 ut_a56 8 0 1 0 0 0 qwa qgi qlo qtu 8 11 11 11 0 (by decide +kernel) (by decide) ut_e174 ut_e176 ut_e177 ut_e178 ut_e179 ut_e180 ut_e181) (va_cwS 5 hts gL_ties_L_loads rfl rfl rfl hd_L_loads ⟨Nat.le_of_ble_eq_true rfl, Nat.le_of_ble_eq_true rfl⟩) hK hNs hZ hP hD hS hA rfl hl.1 (Nat.le_of_ble_eq_true rfl) dL_ties_308 rfl ⟨Nat.le_of_ble_eq_true rfl, Nat.le_of_ble_eq_true rfl⟩ (fun w2 H locs hB hP hD hS => ?_)
  obtain ⟨qwa, qgi, qlo, qtu, rfl⟩ := hB
  refine lv_if_eq (tgt := 353) hx hb dL_ties_311 (by decide) (fun c => absurd c (by decide)) (fun _ => ?_)
  refine lv_aload_n hx hb dL_ties_314 rfl (lv_at hl 1 rfl) ?_
  refine lv_iconst (v := 0) hx hb dL_ties_315 (by decide) ?_
  refine lk_park (rest := []) (As := [.int 0]) (v := 4) hC (c_X0_current l dC dI cI cZ h a ut_a21 ut_a22 ut_a52 ut_a53 ut_a54 ut_a56 8 0 1 0 0 0 qwa qgi qlo qtu 8 0 (by decide +kernel) (by decide) ut_e182) (ut_e183 _ _ _ _) (cwV 1 hts gL_ties_X0_current rfl rfl rfl hd_X0_current ⟨Nat.le_of_ble_eq_true rfl, Nat.le_of_ble_eq_true rfl⟩) hK hP hD hS hA rfl rfl hl.1 (Nat.le_of_ble_eq_true rfl) dL_ties_316 rfl ⟨Nat.le_of_ble_eq_true rfl, Nat.le_of_ble_eq_true rfl⟩ (fun qwa qgi qlo qtu H locs hP hD hS => ?_)
  refine lv_iconst (v := 4) hx hb dL_ties_319 (by decide) ?_
  refine lv_icmp_ne (tgt := 353) hx hb dL_ties_320 (by decide) (fun c => absurd (by decide) c) (fun _ => ?_)
  refine lv_aload_n hx hb dL_ties_323 rfl (lv_at hl 1 rfl) ?_
  refine lv_iconst (v := 3) hx hb dL_ties_324 (by decide) ?_
  refine lk_park (rest := []) (As := [.int 3]) (v := 4) hC (c_X0_current l dC dI cI cZ h a ut_a21 ut_a22 ut_a52 ut_a53 ut_a54 ut_a56 8 0 1 0 0 0 qwa qgi qlo qtu 8 3 (by decide +kernel) (by decide) ut_e184) (ut_e185 _ _ _ _) (cwV 1 hts gL_ties_X0_current rfl rfl rfl hd_X0_current ⟨Nat.le_of_ble_eq_true rfl, Nat.le_of_ble_eq_true rfl⟩) hK hP hD hS hA rfl rfl hl.1 (Nat.le_of_ble_eq_true rfl) dL_ties_325 rfl ⟨Nat.le_of_ble_eq_true rfl, Nat.le_of_ble_eq_true rfl⟩ (fun qwa qgi qlo qtu H locs hP hD hS => ?_)
  refine lv_iconst (v := 4) hx hb dL_ties_328 (by decide) ?_
  refine lv_icmp_ne (tgt := 353) hx hb dL_ties_329 (by decide) (fun c => absurd (by decide) c) (fun _ => ?_)
  refine lv_aload_n hx hb dL_ties_332 rfl (lv_at hl 1 rfl) ?_
  refine lv_bipush (v := 6) hx hb dL_ties_333 (by decide) ?_
  refine lk_park (rest := []) (As := [.int 6]) (v := 3) hC (c_X0_current l dC dI cI cZ h a ut_a21 ut_a22 ut_a52 ut_a53 ut_a54 ut_a56 8 0 1 0 0 0 qwa qgi qlo qtu 8 6 (by decide +kernel) (by decide) ut_e186) (ut_e187 _ _ _ _) (cwV 1 hts gL_ties_X0_current rfl rfl rfl hd_X0_current ⟨Nat.le_of_ble_eq_true rfl, Nat.le_of_ble_eq_true rfl⟩) hK hP hD hS hA rfl rfl hl.1 (Nat.le_of_ble_eq_true rfl) dL_ties_335 rfl ⟨Nat.le_of_ble_eq_true rfl, Nat.le_of_ble_eq_true rfl⟩ (fun qwa qgi qlo qtu H locs hP hD hS => ?_)
  refine lv_iconst (v := 3) hx hb dL_ties_338 (by decide) ?_
  refine lv_icmp_ne (tgt := 353) hx hb dL_ties_339 (by decide) (fun c => absurd (by decide) c) (fun _ => ?_)
  refine lv_aload_n hx hb dL_ties_342 rfl (lv_at hl 1 rfl) ?_
  refine lk_call (rest := []) (As := [.ref h]) hC (c_L_refuses l hl0 dC dI cI cZ h a ut_a21 ut_a22 ut_a52 ut_a53 ut_a54 ut_a56 8 0 1 0 0 0 qwa qgi qlo qtu 8 (by decide +kernel) (by decide) (by decide) _ (fun wa gi lo tu => ob_held (by decide) ut_e175 wa gi lo tu uZ uZ uZ uZ)) (va_cwS 1 hts gL_ties_L_refuses rfl rfl rfl hd_L_refuses ⟨Nat.le_of_ble_eq_true rfl, Nat.le_of_ble_eq_true rfl⟩) hK hNs hZ hP hD hS hA rfl hl.1 (Nat.le_of_ble_eq_true rfl) dL_ties_343 rfl ⟨Nat.le_of_ble_eq_true rfl, Nat.le_of_ble_eq_true rfl⟩ (fun w2 H locs hB hP hD hS => ?_)
  obtain ⟨qwa, qgi, qlo, qtu, rfl⟩ := hB
  refine lv_if_eq (tgt := 353) hx hb dL_ties_346 (by decide) (fun c => absurd c (by decide)) (fun _ => ?_)
  refine lv_iconst (v := 1) hx hb dL_ties_349 (by decide) ?_
  refine lv_goto (tgt := 354) hx hb dL_ties_350 (by decide) ?_
  exact hret H locs _ 354 ls trivial hS hP hD dL_ties_354
