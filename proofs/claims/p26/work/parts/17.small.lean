theorem hd_L_gives : yL_gives.cls ≠ "java/lang/invoke/MethodHandle" ∧ yL_gives.cls ≠ "java/lang/invoke/VarHandle" ∧ (parseMethodDescriptor yL_gives.desc).map (fun d => d.parameters.length) = some 5 := by decide +kernel
abbrev rmL_gives : Room := { frames := 7, cells := 0, slots := 0, locals := 144 }
set_option maxHeartbeats 4000000 in
set_option maxRecDepth 100000 in
theorem c_L_gives (l : Launch) (dC : Nat → ClassId) (dI : Nat → Nat → Nat) (cI cZ : ClassId) (h : Nat) (a : Nat → Nat) (qph : AR) (qgr : AR) (qne : AR) (qap : AR) (qle : AR) (qfu : AR) (qpc : Int32) (qgd : Int32) (qri : Int32) (qnw : Int32) (qtk : Int32) (qsv : Int32) (qwa : AR) (qgi : AR) (qlo : AR) (qtu : AR) (n : Nat) (i1 i2 i3 i4 : Int32) (hpc : qpc = nI n) (hn : n ≤ 8) (ht0 : (X0_current_T qpc n 0) = 0) (hv0 : ∀ wa gi lo tu : AR, ((X0_current qph qgr qne qap qle qfu qpc qgd qri qnw wa gi lo tu n 0).1) = i1) (ht1 : (X0_current_T qpc n 1) = 0) (hv1 : ∀ wa gi lo tu : AR, ((X0_current qph qgr qne qap qle qfu qpc qgd qri qnw wa gi lo tu n 1).1) = i2) (ht2 : (X0_current_T qpc n 2) = 0) (hv2 : ∀ wa gi lo tu : AR, ((X0_current qph qgr qne qap qle qfu qpc qgd qri qnw wa gi lo tu n 2).1) = i3) (ht3 : (X0_current_T qpc n 3) = 0) (hv3 : ∀ wa gi lo tu : AR, ((X0_current qph qgr qne qap qle qfu qpc qgd qri qnw wa gi lo tu n 3).1) = i4) : Lk l yL_gives wsL_gives rmL_gives dC dI cI cZ [.ref h, .int i1, .int i2, .int i3, .int i4] (xW cI cZ h a qph qgr qne qap qle qfu qpc qgd qri qnw qtk qsv qwa qgi qlo qtu) 1 (fun w2 => ∃ wa gi lo tu : AR, w2 = (xW cI cZ h a qph qgr qne qap qle qfu qpc qgd qri qnw qtk qsv wa gi lo tu)) 0 0 := by
  refine lk_enter (cc := cL_gives) (maxL := 5) (by decide) rfl (Nat.le_of_ble_eq_true rfl) ?_
  intro p e s m args below meth c A ls Q hC hK hNs hZ hP hD hS hA hl hret
  obtain ⟨hx, hb, hml, hown, hts⟩ := id hC
  have hl : lv_has ls 5 [(0, .ref h), (1, .int i1), (2, .int i2), (3, .int i3), (4, .int i4)] := hl
  refine lv_aload_n hx hb dL_gives_0 rfl (lv_at hl 0 rfl) ?_
  refine lv_iconst (v := 0) hx hb dL_gives_1 (by decide) ?_
  refine lk_park (rest := []) (As := [.int 0]) (v := i1) hC (c_X0_current l dC dI cI cZ h a qph qgr qne qap qle qfu qpc qgd qri qnw qtk qsv qwa qgi qlo qtu n 0 hpc hn ht0) (hv0 _ _ _ _) (cwV 1 hts gL_gives_X0_current rfl rfl rfl hd_X0_current ⟨Nat.le_of_ble_eq_true rfl, Nat.le_of_ble_eq_true rfl⟩) hK hP hD hS hA rfl rfl hl.1 (Nat.le_of_ble_eq_true rfl) dL_gives_2 rfl ⟨Nat.le_of_ble_eq_true rfl, Nat.le_of_ble_eq_true rfl⟩ (fun qwa qgi qlo qtu H locs hP hD hS => ?_)
  refine lv_iload_n hx hb dL_gives_5 rfl (lv_at hl 1 rfl) ?_
  refine lv_icmp_ne (tgt := 41) hx hb dL_gives_6 (by decide) (fun c => absurd rfl c) (fun _ => ?_)
  refine lv_aload_n hx hb dL_gives_9 rfl (lv_at hl 0 rfl) ?_
  refine lv_iconst (v := 1) hx hb dL_gives_10 (by decide) ?_
  refine lk_park (rest := []) (As := [.int 1]) (v := i2) hC (c_X0_current l dC dI cI cZ h a qph qgr qne qap qle qfu qpc qgd qri qnw qtk qsv qwa qgi qlo qtu n 1 hpc hn ht1) (hv1 _ _ _ _) (cwV 1 hts gL_gives_X0_current rfl rfl rfl hd_X0_current ⟨Nat.le_of_ble_eq_true rfl, Nat.le_of_ble_eq_true rfl⟩) hK hP hD hS hA rfl rfl hl.1 (Nat.le_of_ble_eq_true rfl) dL_gives_11 rfl ⟨Nat.le_of_ble_eq_true rfl, Nat.le_of_ble_eq_true rfl⟩ (fun qwa qgi qlo qtu H locs hP hD hS => ?_)
  refine lv_iload_n hx hb dL_gives_14 rfl (lv_at hl 2 rfl) ?_
  refine lv_icmp_ne (tgt := 41) hx hb dL_gives_15 (by decide) (fun c => absurd rfl c) (fun _ => ?_)
  refine lv_aload_n hx hb dL_gives_18 rfl (lv_at hl 0 rfl) ?_
  refine lv_iconst (v := 2) hx hb dL_gives_19 (by decide) ?_
  refine lk_park (rest := []) (As := [.int 2]) (v := i3) hC (c_X0_current l dC dI cI cZ h a qph qgr qne qap qle qfu qpc qgd qri qnw qtk qsv qwa qgi qlo qtu n 2 hpc hn ht2) (hv2 _ _ _ _) (cwV 1 hts gL_gives_X0_current rfl rfl rfl hd_X0_current ⟨Nat.le_of_ble_eq_true rfl, Nat.le_of_ble_eq_true rfl⟩) hK hP hD hS hA rfl rfl hl.1 (Nat.le_of_ble_eq_true rfl) dL_gives_20 rfl ⟨Nat.le_of_ble_eq_true rfl, Nat.le_of_ble_eq_true rfl⟩ (fun qwa qgi qlo qtu H locs hP hD hS => ?_)
  refine lv_iload_n hx hb dL_gives_23 rfl (lv_at hl 3 rfl) ?_
  refine lv_icmp_ne (tgt := 41) hx hb dL_gives_24 (by decide) (fun c => absurd rfl c) (fun _ => ?_)
  refine lv_aload_n hx hb dL_gives_27 rfl (lv_at hl 0 rfl) ?_
  refine lv_iconst (v := 3) hx hb dL_gives_28 (by decide) ?_
  refine lk_park (rest := []) (As := [.int 3]) (v := i4) hC (c_X0_current l dC dI cI cZ h a qph qgr qne qap qle qfu qpc qgd qri qnw qtk qsv qwa qgi qlo qtu n 3 hpc hn ht3) (hv3 _ _ _ _) (cwV 1 hts gL_gives_X0_current rfl rfl rfl hd_X0_current ⟨Nat.le_of_ble_eq_true rfl, Nat.le_of_ble_eq_true rfl⟩) hK hP hD hS hA rfl rfl hl.1 (Nat.le_of_ble_eq_true rfl) dL_gives_29 rfl ⟨Nat.le_of_ble_eq_true rfl, Nat.le_of_ble_eq_true rfl⟩ (fun qwa qgi qlo qtu H locs hP hD hS => ?_)
  refine lv_iload hx hb dL_gives_32 (lv_at hl 4 rfl) ?_
  refine lv_icmp_ne (tgt := 41) hx hb dL_gives_34 (by decide) (fun c => absurd rfl c) (fun _ => ?_)
  refine lv_iconst (v := 1) hx hb dL_gives_37 (by decide) ?_
  refine lv_goto (tgt := 42) hx hb dL_gives_38 (by decide) ?_
  exact hret H locs _ 42 ls ⟨_, _, _, _, rfl⟩ hS hP hD dL_gives_42
theorem hd_L_loads : yL_loads.cls ≠ "java/lang/invoke/MethodHandle" ∧ yL_loads.cls ≠ "java/lang/invoke/VarHandle" ∧ (parseMethodDescriptor yL_loads.desc).map (fun d => d.parameters.length) = some 5 := by decide +kernel
abbrev rmL_loads : Room := { frames := 7, cells := 0, slots := 0, locals := 144 }
set_option maxHeartbeats 4000000 in
set_option maxRecDepth 100000 in
theorem c_L_loads (l : Launch) (dC : Nat → ClassId) (dI : Nat → Nat → Nat) (cI cZ : ClassId) (h : Nat) (a : Nat → Nat) (qph : AR) (qgr : AR) (qne : AR) (qap : AR) (qle : AR) (qfu : AR) (qpc : Int32) (qgd : Int32) (qri : Int32) (qnw : Int32) (qtk : Int32) (qsv : Int32) (qwa : AR) (qgi : AR) (qlo : AR) (qtu : AR) (n : Nat) (i1 i2 i3 i4 : Int32) (hpc : qpc = nI n) (hn : n ≤ 8) (ht0 : (X0_load_T n 0) = 0) (hv0 : ∀ wa gi lo tu : AR, ((X0_load qph qgr qne qap qle qfu qgd qri qnw wa gi lo tu n 0).1) = i1) (ht1 : (X0_load_T n 1) = 0) (hv1 : ∀ wa gi lo tu : AR, ((X0_load qph qgr qne qap qle qfu qgd qri qnw wa gi lo tu n 1).1) = i2) (ht2 : (X0_load_T n 2) = 0) (hv2 : ∀ wa gi lo tu : AR, ((X0_load qph qgr qne qap qle qfu qgd qri qnw wa gi lo tu n 2).1) = i3) (hvI : ∀ wa gi lo tu : AR, ((X0_imbalance qph qgr qne qap qle qfu qgd qri qnw wa gi lo tu n).1) = i4) : Lk l yL_loads wsL_loads rmL_loads dC dI cI cZ [.ref h, .int i1, .int i2, .int i3, .int i4] (xW cI cZ h a qph qgr qne qap qle qfu qpc qgd qri qnw qtk qsv qwa qgi qlo qtu) 1 (fun w2 => ∃ wa gi lo tu : AR, w2 = (xW cI cZ h a qph qgr qne qap qle qfu qpc qgd qri qnw qtk qsv wa gi lo tu)) 0 0 := by
  refine lk_enter (cc := cL_loads) (maxL := 5) (by decide) rfl (Nat.le_of_ble_eq_true rfl) ?_
  intro p e s m args below meth c A ls Q hC hK hNs hZ hP hD hS hA hl hret
  obtain ⟨hx, hb, hml, hown, hts⟩ := id hC
  have hl : lv_has ls 5 [(0, .ref h), (1, .int i1), (2, .int i2), (3, .int i3), (4, .int i4)] := hl
  refine lv_aload_n hx hb dL_loads_0 rfl (lv_at hl 0 rfl) ?_
  refine lv_iconst (v := 0) hx hb dL_loads_1 (by decide) ?_
  refine lk_park (rest := []) (As := [.int 0]) (v := i1) hC (c_X0_load l dC dI cI cZ h a qph qgr qne qap qle qfu qpc qgd qri qnw qtk qsv qwa qgi qlo qtu n 0 hpc hn ht0) (hv0 _ _ _ _) (cwV 1 hts gL_loads_X0_load rfl rfl rfl hd_X0_load ⟨Nat.le_of_ble_eq_true rfl, Nat.le_of_ble_eq_true rfl⟩) hK hP hD hS hA rfl rfl hl.1 (Nat.le_of_ble_eq_true rfl) dL_loads_2 rfl ⟨Nat.le_of_ble_eq_true rfl, Nat.le_of_ble_eq_true rfl⟩ (fun qwa qgi qlo qtu H locs hP hD hS => ?_)
  refine lv_iload_n hx hb dL_loads_5 rfl (lv_at hl 1 rfl) ?_
  refine lv_icmp_ne (tgt := 40) hx hb dL_loads_6 (by decide) (fun c => absurd rfl c) (fun _ => ?_)
  refine lv_aload_n hx hb dL_loads_9 rfl (lv_at hl 0 rfl) ?_
  refine lv_iconst (v := 1) hx hb dL_loads_10 (by decide) ?_
  refine lk_park (rest := []) (As := [.int 1]) (v := i2) hC (c_X0_load l dC dI cI cZ h a qph qgr qne qap qle qfu qpc qgd qri qnw qtk qsv qwa qgi qlo qtu n 1 hpc hn ht1) (hv1 _ _ _ _) (cwV 1 hts gL_loads_X0_load rfl rfl rfl hd_X0_load ⟨Nat.le_of_ble_eq_true rfl, Nat.le_of_ble_eq_true rfl⟩) hK hP hD hS hA rfl rfl hl.1 (Nat.le_of_ble_eq_true rfl) dL_loads_11 rfl ⟨Nat.le_of_ble_eq_true rfl, Nat.le_of_ble_eq_true rfl⟩ (fun qwa qgi qlo qtu H locs hP hD hS => ?_)
  refine lv_iload_n hx hb dL_loads_14 rfl (lv_at hl 2 rfl) ?_
  refine lv_icmp_ne (tgt := 40) hx hb dL_loads_15 (by decide) (fun c => absurd rfl c) (fun _ => ?_)
  refine lv_aload_n hx hb dL_loads_18 rfl (lv_at hl 0 rfl) ?_
  refine lv_iconst (v := 2) hx hb dL_loads_19 (by decide) ?_
  refine lk_park (rest := []) (As := [.int 2]) (v := i3) hC (c_X0_load l dC dI cI cZ h a qph qgr qne qap qle qfu qpc qgd qri qnw qtk qsv qwa qgi qlo qtu n 2 hpc hn ht2) (hv2 _ _ _ _) (cwV 1 hts gL_loads_X0_load rfl rfl rfl hd_X0_load ⟨Nat.le_of_ble_eq_true rfl, Nat.le_of_ble_eq_true rfl⟩) hK hP hD hS hA rfl rfl hl.1 (Nat.le_of_ble_eq_true rfl) dL_loads_20 rfl ⟨Nat.le_of_ble_eq_true rfl, Nat.le_of_ble_eq_true rfl⟩ (fun qwa qgi qlo qtu H locs hP hD hS => ?_)
  refine lv_iload_n hx hb dL_loads_23 rfl (lv_at hl 3 rfl) ?_
  refine lv_icmp_ne (tgt := 40) hx hb dL_loads_24 (by decide) (fun c => absurd rfl c) (fun _ => ?_)
  refine lv_aload_n hx hb dL_loads_27 rfl (lv_at hl 0 rfl) ?_
  refine lk_park (rest := []) (As := []) (v := i4) hC (c_X0_imbalance l dC dI cI cZ h a qph qgr qne qap qle qfu qpc qgd qri qnw qtk qsv qwa qgi qlo qtu n hpc hn) (hvI _ _ _ _) (cwV 0 hts gL_loads_X0_imbalance rfl rfl rfl hd_X0_imbalance ⟨Nat.le_of_ble_eq_true rfl, Nat.le_of_ble_eq_true rfl⟩) hK hP hD hS hA rfl rfl hl.1 (Nat.le_of_ble_eq_true rfl) dL_loads_28 rfl ⟨Nat.le_of_ble_eq_true rfl, Nat.le_of_ble_eq_true rfl⟩ (fun qwa qgi qlo qtu H locs hP hD hS => ?_)
  refine lv_iload hx hb dL_loads_31 (lv_at hl 4 rfl) ?_
  refine lv_icmp_ne (tgt := 40) hx hb dL_loads_33 (by decide) (fun c => absurd rfl c) (fun _ => ?_)
  refine lv_iconst (v := 1) hx hb dL_loads_36 (by decide) ?_
  refine lv_goto (tgt := 41) hx hb dL_loads_37 (by decide) ?_
  exact hret H locs _ 41 ls ⟨_, _, _, _, rfl⟩ hS hP hD dL_loads_41
