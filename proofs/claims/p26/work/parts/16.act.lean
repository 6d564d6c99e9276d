abbrev rmL_act : Room := { frames := 8, cells := 0, slots := 0, locals := 148 }
abbrev rmxL_act : Room := { frames := 8, cells := 1, slots := 6, locals := 148 }
theorem hd_L_act : yL_act.cls ≠ "java/lang/invoke/MethodHandle" ∧ yL_act.cls ≠ "java/lang/invoke/VarHandle" ∧ (parseMethodDescriptor yL_act.desc).map (fun d => d.parameters.length) = some 6 := by decide +kernel
set_option maxHeartbeats 4000000 in
set_option maxRecDepth 100000 in
theorem a_point (l : Launch) (dC : Nat → ClassId) (dI : Nat → Nat → Nat) (cI cZ : ClassId) (h : Nat) (a : Nat → Nat) (qph : AR) (qgr : AR) (qne : AR) (qap : AR) (qle : AR) (qfu : AR) (qpc : Int32) (qgd : Int32) (qri : Int32) (qnw : Int32) (qtk : Int32) (qsv : Int32) (qwa : AR) (qgi : AR) (qlo : AR) (qtu : AR) (n : Nat) (i1 i2 i3 i4 : Int32) (hpc : qpc = nI n) (hn : n ≤ 8) (hok : (X0_point_T qpc n i1 i2) = 0) : Lk l yL_act wsL_act rmL_act dC dI cI cZ [.ref h, .int 0, .int i1, .int i2, .int i3, .int i4] (xW cI cZ h a qph qgr qne qap qle qfu qpc qgd qri qnw qtk qsv qwa qgi qlo qtu) ((X0_point qph qgr qne qpc n i1 i2).1) (fun w2 => w2 = (xW cI cZ h a ((X0_point qph qgr qne qpc n i1 i2).2.1) ((X0_point qph qgr qne qpc n i1 i2).2.2.1) ((X0_point qph qgr qne qpc n i1 i2).2.2.2.1) qap qle qfu ((X0_point qph qgr qne qpc n i1 i2).2.2.2.2) qgd qri qnw qtk qsv qwa qgi qlo qtu)) 0 0 := by
  refine lk_enterH (cc := cL_act) (maxL := 7) (by decide) rfl (Nat.le_of_ble_eq_true rfl) ?_
  intro p e s m args below meth c A ls Q hC htab hK hNs hZ hP hD hS hA hl hret
  obtain ⟨hx, hb, hml, hown, hts⟩ := id hC
  have hl : lv_has ls 7 [(0, .ref h), (1, .int 0), (2, .int i1), (3, .int i2), (4, .int i3), (5, .int i4)] := hl
  refine lv_iload_n hx hb dL_act_0 rfl (lv_at hl 1 rfl) ?_
  refine lv_if_ne (tgt := 13) hx hb dL_act_1 (by decide) (fun c => absurd (by decide) c) (fun _ => ?_)
  refine lv_aload_n hx hb dL_act_4 rfl (lv_at hl 0 rfl) ?_
  refine lv_iload_n hx hb dL_act_5 rfl (lv_at hl 2 rfl) ?_
  refine lv_iload_n hx hb dL_act_6 rfl (lv_at hl 3 rfl) ?_
  refine k_calli (rest := []) (q0 := 0) hC (c_X0_point l dC dI cI cZ h a qph qgr qne qap qle qfu qpc qgd qri qnw qtk qsv qwa qgi qlo qtu n i1 i2 hpc hn hok) (cwV 2 hts gL_act_X0_point rfl rfl rfl hd_X0_point ⟨Nat.le_of_ble_eq_true rfl, Nat.le_of_ble_eq_true rfl⟩) hK hP hD hS hA rfl rfl rfl hl.1 (Nat.le_of_ble_eq_true rfl) dL_act_7 rfl ⟨Nat.zero_le _, Nat.zero_le _⟩ (fun H locs hP hD hS => ?_)
  refine lv_goto (tgt := 217) hx hb dL_act_10 (by decide) ?_
  exact hret H locs _ 217 ls _ rfl hS hP hD rfl dL_act_217
set_option maxHeartbeats 4000000 in
set_option maxRecDepth 100000 in
theorem a_point_1 (l : Launch) (hl0 : l.stackTraces = false) (dC : Nat → ClassId) (dI : Nat → Nat → Nat) (cI cZ : ClassId) (h : Nat) (a : Nat → Nat) (qph : AR) (qgr : AR) (qne : AR) (qap : AR) (qle : AR) (qfu : AR) (qpc : Int32) (qgd : Int32) (qri : Int32) (qnw : Int32) (qtk : Int32) (qsv : Int32) (qwa : AR) (qgi : AR) (qlo : AR) (qtu : AR) (n : Nat) (i1 i2 i3 i4 : Int32) (hpc : qpc = nI n) (hn : n ≤ 8) (hT : (X0_point_T qpc n i1 i2) = 1) : Lk l yL_act wsL_act rmxL_act dC dI cI cZ [.ref h, .int 0, .int i1, .int i2, .int i3, .int i4] (xW cI cZ h a qph qgr qne qap qle qfu qpc qgd qri qnw qtk qsv qwa qgi qlo qtu) (-70012) (fun w2 => w2 = (xW cI cZ h a qph qgr qne qap qle qfu qpc qgd qri qnw qtk qsv qwa qgi qlo qtu)) 1 6 := by
  refine lk_enterH (cc := cL_act) (maxL := 7) (by decide) rfl (Nat.le_of_ble_eq_true rfl) ?_
  intro p e s m args below meth c A ls Q hC htab hK hNs hZ hP hD hS hA hl hret
  obtain ⟨hx, hb, hml, hown, hts⟩ := id hC
  have hl : lv_has ls 7 [(0, .ref h), (1, .int 0), (2, .int i1), (3, .int i2), (4, .int i3), (5, .int i4)] := hl
  refine lv_iload_n hx hb dL_act_0 rfl (lv_at hl 1 rfl) ?_
  refine lv_if_ne (tgt := 13) hx hb dL_act_1 (by decide) (fun c => absurd (by decide) c) (fun _ => ?_)
  refine lv_aload_n hx hb dL_act_4 rfl (lv_at hl 0 rfl) ?_
  refine lv_iload_n hx hb dL_act_5 rfl (lv_at hl 2 rfl) ?_
  refine lv_iload_n hx hb dL_act_6 rfl (lv_at hl 3 rfl) ?_
  refine kx_callV (rest := []) (q0 := 0) hC (cx_X0_point l hl0 dC dI cI cZ h a qph qgr qne qap qle qfu qpc qgd qri qnw qtk qsv qwa qgi qlo qtu n i1 i2 hpc hn (by rw [hT]; decide)) (cwV 2 hts gL_act_X0_point rfl rfl rfl hd_X0_point ⟨Nat.le_of_ble_eq_true rfl, Nat.le_of_ble_eq_true rfl⟩) hK hNs hZ hP hD hS hA rfl rfl rfl hl.1 (Nat.le_of_ble_eq_true rfl) dL_act_7 rfl ⟨Nat.le_of_ble_eq_true rfl, Nat.le_of_ble_eq_true rfl⟩ (fun E ce q H locs hex hP hD hS hcell hv hcl => ?_)
  rcases hex with ⟨hT2, rfl⟩ | ⟨hT2, rfl⟩
  · refine vx_catch (name := nIA) hown [⟨0, 217, 218, 60⟩] ⟨0, 217, 223, 63⟩ [⟨0, 217, 228, 66⟩] (by rw [htab]; rfl) (fun z hz => by rcases List.mem_singleton.mp hz with rfl; exact Or.inr ⟨by decide, nIO, hts (.classLink RL 60 nIO) (by decide +kernel), hNs.2.2.1.1⟩) (by decide) (by decide) (hts (.classLink RL 63 nIA) (by decide +kernel)) (va_Nw.use rfl hNs.2.1.1) hcell hv hcl ?_
    refine lv_astore (lv' := [(6, .ref q), (0, .ref h), (1, .int 0), (2, .int i1), (3, .int i2), (4, .int i3), (5, .int i4)]) hx hb dL_act_223 hl (by decide) rfl (fun ls hl => ?_)
    refine lv_ldc (v := -70012) hx hb hown (hts (.constant RL 65 (-70012)) (by decide +kernel)) dL_act_225 ?_
    exact hret H locs _ 227 ls _ rfl hS hP hD rfl dL_act_227
  · exact absurd (hT.symm.trans hT2) (by decide)
set_option maxHeartbeats 4000000 in
set_option maxRecDepth 100000 in
theorem a_point_2 (l : Launch) (hl0 : l.stackTraces = false) (dC : Nat → ClassId) (dI : Nat → Nat → Nat) (cI cZ : ClassId) (h : Nat) (a : Nat → Nat) (qph : AR) (qgr : AR) (qne : AR) (qap : AR) (qle : AR) (qfu : AR) (qpc : Int32) (qgd : Int32) (qri : Int32) (qnw : Int32) (qtk : Int32) (qsv : Int32) (qwa : AR) (qgi : AR) (qlo : AR) (qtu : AR) (n : Nat) (i1 i2 i3 i4 : Int32) (hpc : qpc = nI n) (hn : n ≤ 8) (hT : (X0_point_T qpc n i1 i2) = 2) : Lk l yL_act wsL_act rmxL_act dC dI cI cZ [.ref h, .int 0, .int i1, .int i2, .int i3, .int i4] (xW cI cZ h a qph qgr qne qap qle qfu qpc qgd qri qnw qtk qsv qwa qgi qlo qtu) (-70013) (fun w2 => w2 = (xW cI cZ h a qph qgr qne qap qle qfu qpc qgd qri qnw qtk qsv qwa qgi qlo qtu)) 1 6 := by
  refine lk_enterH (cc := cL_act) (maxL := 7) (by decide) rfl (Nat.le_of_ble_eq_true rfl) ?_
  intro p e s m args below meth c A ls Q hC htab hK hNs hZ hP hD hS hA hl hret
  obtain ⟨hx, hb, hml, hown, hts⟩ := id hC
  have hl : lv_has ls 7 [(0, .ref h), (1, .int 0), (2, .int i1), (3, .int i2), (4, .int i3), (5, .int i4)] := hl
  refine lv_iload_n hx hb dL_act_0 rfl (lv_at hl 1 rfl) ?_
  refine lv_if_ne (tgt := 13) hx hb dL_act_1 (by decide) (fun c => absurd (by decide) c) (fun _ => ?_)
  refine lv_aload_n hx hb dL_act_4 rfl (lv_at hl 0 rfl) ?_
  refine lv_iload_n hx hb dL_act_5 rfl (lv_at hl 2 rfl) ?_
  refine lv_iload_n hx hb dL_act_6 rfl (lv_at hl 3 rfl) ?_
  refine kx_callV (rest := []) (q0 := 0) hC (cx_X0_point l hl0 dC dI cI cZ h a qph qgr qne qap qle qfu qpc qgd qri qnw qtk qsv qwa qgi qlo qtu n i1 i2 hpc hn (by rw [hT]; decide)) (cwV 2 hts gL_act_X0_point rfl rfl rfl hd_X0_point ⟨Nat.le_of_ble_eq_true rfl, Nat.le_of_ble_eq_true rfl⟩) hK hNs hZ hP hD hS hA rfl rfl rfl hl.1 (Nat.le_of_ble_eq_true rfl) dL_act_7 rfl ⟨Nat.le_of_ble_eq_true rfl, Nat.le_of_ble_eq_true rfl⟩ (fun E ce q H locs hex hP hD hS hcell hv hcl => ?_)
  rcases hex with ⟨hT2, rfl⟩ | ⟨hT2, rfl⟩
  · exact absurd (hT.symm.trans hT2) (by decide)
  · refine vx_catch (name := nIS) hown [⟨0, 217, 218, 60⟩, ⟨0, 217, 223, 63⟩] ⟨0, 217, 228, 66⟩ [] (by rw [htab]; rfl) (fun z hz => by
        rcases List.mem_cons.mp hz with rfl | hz
        · exact Or.inr ⟨by decide, nIO, hts (.classLink RL 60 nIO) (by decide +kernel), hNs.2.2.1.2.1⟩
        · rcases List.mem_singleton.mp hz with rfl
          exact Or.inr ⟨by decide, nIA, hts (.classLink RL 63 nIA) (by decide +kernel), hNs.2.2.1.2.2⟩) (by decide) (by decide) (hts (.classLink RL 66 nIS) (by decide +kernel)) (va_Nw.use rfl hNs.2.1.2.1) hcell hv hcl ?_
    refine lv_astore (lv' := [(6, .ref q), (0, .ref h), (1, .int 0), (2, .int i1), (3, .int i2), (4, .int i3), (5, .int i4)]) hx hb dL_act_228 hl (by decide) rfl (fun ls hl => ?_)
    refine lv_ldc (v := -70013) hx hb hown (hts (.constant RL 68 (-70013)) (by decide +kernel)) dL_act_230 ?_
    exact hret H locs _ 232 ls _ rfl hS hP hD rfl dL_act_232
set_option maxHeartbeats 4000000 in
set_option maxRecDepth 100000 in
theorem a_fuse (l : Launch) (dC : Nat → ClassId) (dI : Nat → Nat → Nat) (cI cZ : ClassId) (h : Nat) (a : Nat → Nat) (qph : AR) (qgr : AR) (qne : AR) (qap : AR) (qle : AR) (qfu : AR) (qpc : Int32) (qgd : Int32) (qri : Int32) (qnw : Int32) (qtk : Int32) (qsv : Int32) (qwa : AR) (qgi : AR) (qlo : AR) (qtu : AR) (i1 i2 i3 i4 : Int32) (hok : (X0_fuse_T i1 i2) = 0) : Lk l yL_act wsL_act rmL_act dC dI cI cZ [.ref h, .int 1, .int i1, .int i2, .int i3, .int i4] (xW cI cZ h a qph qgr qne qap qle qfu qpc qgd qri qnw qtk qsv qwa qgi qlo qtu) ((X0_fuse qfu i1 i2).1) (fun w2 => w2 = (xW cI cZ h a qph qgr qne qap qle ((X0_fuse qfu i1 i2).2) qpc qgd qri qnw qtk qsv qwa qgi qlo qtu)) 0 0 := by
  refine lk_enterH (cc := cL_act) (maxL := 7) (by decide) rfl (Nat.le_of_ble_eq_true rfl) ?_
  intro p e s m args below meth c A ls Q hC htab hK hNs hZ hP hD hS hA hl hret
  obtain ⟨hx, hb, hml, hown, hts⟩ := id hC
  have hl : lv_has ls 7 [(0, .ref h), (1, .int 1), (2, .int i1), (3, .int i2), (4, .int i3), (5, .int i4)] := hl
  refine lv_iload_n hx hb dL_act_0 rfl (lv_at hl 1 rfl) ?_
  refine lv_if_ne (tgt := 13) hx hb dL_act_1 (by decide) (fun _ => ?_) (fun c => absurd c (by decide))
  refine lv_iload_n hx hb dL_act_13 rfl (lv_at hl 1 rfl) ?_
  refine lv_iconst (v := 1) hx hb dL_act_14 (by decide) ?_
  refine lv_icmp_ne (tgt := 27) hx hb dL_act_15 (by decide) (fun c => absurd (by decide) c) (fun _ => ?_)
  refine lv_aload_n hx hb dL_act_18 rfl (lv_at hl 0 rfl) ?_
  refine lv_iload_n hx hb dL_act_19 rfl (lv_at hl 2 rfl) ?_
  refine lv_iload_n hx hb dL_act_20 rfl (lv_at hl 3 rfl) ?_
  refine k_calli (rest := []) (q0 := 0) hC (c_X0_fuse l dC dI cI cZ h a qph qgr qne qap qle qfu qpc qgd qri qnw qtk qsv qwa qgi qlo qtu i1 i2 hok) (cwV 2 hts gL_act_X0_fuse rfl rfl rfl hd_X0_fuse ⟨Nat.le_of_ble_eq_true rfl, Nat.le_of_ble_eq_true rfl⟩) hK hP hD hS hA rfl rfl rfl hl.1 (Nat.le_of_ble_eq_true rfl) dL_act_21 rfl ⟨Nat.zero_le _, Nat.zero_le _⟩ (fun H locs hP hD hS => ?_)
  refine lv_goto (tgt := 217) hx hb dL_act_24 (by decide) ?_
  exact hret H locs _ 217 ls _ rfl hS hP hD rfl dL_act_217
set_option maxHeartbeats 4000000 in
set_option maxRecDepth 100000 in
theorem a_fuse_1 (l : Launch) (hl0 : l.stackTraces = false) (dC : Nat → ClassId) (dI : Nat → Nat → Nat) (cI cZ : ClassId) (h : Nat) (a : Nat → Nat) (qph : AR) (qgr : AR) (qne : AR) (qap : AR) (qle : AR) (qfu : AR) (qpc : Int32) (qgd : Int32) (qri : Int32) (qnw : Int32) (qtk : Int32) (qsv : Int32) (qwa : AR) (qgi : AR) (qlo : AR) (qtu : AR) (i1 i2 i3 i4 : Int32) (hT : (X0_fuse_T i1 i2) = 1) : Lk l yL_act wsL_act rmxL_act dC dI cI cZ [.ref h, .int 1, .int i1, .int i2, .int i3, .int i4] (xW cI cZ h a qph qgr qne qap qle qfu qpc qgd qri qnw qtk qsv qwa qgi qlo qtu) (-70012) (fun w2 => w2 = (xW cI cZ h a qph qgr qne qap qle qfu qpc qgd qri qnw qtk qsv qwa qgi qlo qtu)) 1 6 := by
  refine lk_enterH (cc := cL_act) (maxL := 7) (by decide) rfl (Nat.le_of_ble_eq_true rfl) ?_
  intro p e s m args below meth c A ls Q hC htab hK hNs hZ hP hD hS hA hl hret
  obtain ⟨hx, hb, hml, hown, hts⟩ := id hC
  have hl : lv_has ls 7 [(0, .ref h), (1, .int 1), (2, .int i1), (3, .int i2), (4, .int i3), (5, .int i4)] := hl
  refine lv_iload_n hx hb dL_act_0 rfl (lv_at hl 1 rfl) ?_
  refine lv_if_ne (tgt := 13) hx hb dL_act_1 (by decide) (fun _ => ?_) (fun c => absurd c (by decide))
  refine lv_iload_n hx hb dL_act_13 rfl (lv_at hl 1 rfl) ?_
  refine lv_iconst (v := 1) hx hb dL_act_14 (by decide) ?_
  refine lv_icmp_ne (tgt := 27) hx hb dL_act_15 (by decide) (fun c => absurd (by decide) c) (fun _ => ?_)
  refine lv_aload_n hx hb dL_act_18 rfl (lv_at hl 0 rfl) ?_
  refine lv_iload_n hx hb dL_act_19 rfl (lv_at hl 2 rfl) ?_
  refine lv_iload_n hx hb dL_act_20 rfl (lv_at hl 3 rfl) ?_
  refine kx_callV (rest := []) (q0 := 0) hC (cx_X0_fuse l hl0 dC dI cI cZ h a qph qgr qne qap qle qfu qpc qgd qri qnw qtk qsv qwa qgi qlo qtu i1 i2 (by rw [hT]; decide)) (cwV 2 hts gL_act_X0_fuse rfl rfl rfl hd_X0_fuse ⟨Nat.le_of_ble_eq_true rfl, Nat.le_of_ble_eq_true rfl⟩) hK hNs hZ hP hD hS hA rfl rfl rfl hl.1 (Nat.le_of_ble_eq_true rfl) dL_act_21 rfl ⟨Nat.le_of_ble_eq_true rfl, Nat.le_of_ble_eq_true rfl⟩ (fun E ce q H locs hex hP hD hS hcell hv hcl => ?_)
  obtain ⟨hT2, rfl⟩ := hex
  refine vx_catch (name := nIA) hown [⟨0, 217, 218, 60⟩] ⟨0, 217, 223, 63⟩ [⟨0, 217, 228, 66⟩] (by rw [htab]; rfl) (fun z hz => by rcases List.mem_singleton.mp hz with rfl; exact Or.inr ⟨by decide, nIO, hts (.classLink RL 60 nIO) (by decide +kernel), hNs.2.2.1.1⟩) (by decide) (by decide) (hts (.classLink RL 63 nIA) (by decide +kernel)) (va_Nw.use rfl hNs.2.1.1) hcell hv hcl ?_
  refine lv_astore (lv' := [(6, .ref q), (0, .ref h), (1, .int 1), (2, .int i1), (3, .int i2), (4, .int i3), (5, .int i4)]) hx hb dL_act_223 hl (by decide) rfl (fun ls hl => ?_)
  refine lv_ldc (v := -70012) hx hb hown (hts (.constant RL 65 (-70012)) (by decide +kernel)) dL_act_225 ?_
  exact hret H locs _ 227 ls _ rfl hS hP hD rfl dL_act_227
set_option maxHeartbeats 4000000 in
set_option maxRecDepth 100000 in
theorem a_balance (l : Launch) (dC : Nat → ClassId) (dI : Nat → Nat → Nat) (cI cZ : ClassId) (h : Nat) (a : Nat → Nat) (qph : AR) (qgr : AR) (qne : AR) (qap : AR) (qle : AR) (qfu : AR) (qpc : Int32) (qgd : Int32) (qri : Int32) (qnw : Int32) (qtk : Int32) (qsv : Int32) (qwa : AR) (qgi : AR) (qlo : AR) (qtu : AR) (i1 i2 i3 i4 : Int32) (hok : (X0_balance_T i1) = 0) : Lk l yL_act wsL_act rmL_act dC dI cI cZ [.ref h, .int 2, .int i1, .int i2, .int i3, .int i4] (xW cI cZ h a qph qgr qne qap qle qfu qpc qgd qri qnw qtk qsv qwa qgi qlo qtu) ((X0_balance qgd i1).1) (fun w2 => w2 = (xW cI cZ h a qph qgr qne qap qle qfu qpc ((X0_balance qgd i1).2) qri qnw qtk qsv qwa qgi qlo qtu)) 0 0 := by
  refine lk_enterH (cc := cL_act) (maxL := 7) (by decide) rfl (Nat.le_of_ble_eq_true rfl) ?_
  intro p e s m args below meth c A ls Q hC htab hK hNs hZ hP hD hS hA hl hret
  obtain ⟨hx, hb, hml, hown, hts⟩ := id hC
  have hl : lv_has ls 7 [(0, .ref h), (1, .int 2), (2, .int i1), (3, .int i2), (4, .int i3), (5, .int i4)] := hl
  refine lv_iload_n hx hb dL_act_0 rfl (lv_at hl 1 rfl) ?_
  refine lv_if_ne (tgt := 13) hx hb dL_act_1 (by decide) (fun _ => ?_) (fun c => absurd c (by decide))
  refine lv_iload_n hx hb dL_act_13 rfl (lv_at hl 1 rfl) ?_
  refine lv_iconst (v := 1) hx hb dL_act_14 (by decide) ?_
  refine lv_icmp_ne (tgt := 27) hx hb dL_act_15 (by decide) (fun _ => ?_) (fun c => absurd c (by decide))
  refine lv_iload_n hx hb dL_act_27 rfl (lv_at hl 1 rfl) ?_
  refine lv_iconst (v := 2) hx hb dL_act_28 (by decide) ?_
  refine lv_icmp_ne (tgt := 40) hx hb dL_act_29 (by decide) (fun c => absurd (by decide) c) (fun _ => ?_)
  refine lv_aload_n hx hb dL_act_32 rfl (lv_at hl 0 rfl) ?_
  refine lv_iload_n hx hb dL_act_33 rfl (lv_at hl 2 rfl) ?_
  refine k_calli (rest := []) (q0 := 0) hC (c_X0_balance l dC dI cI cZ h a qph qgr qne qap qle qfu qpc qgd qri qnw qtk qsv qwa qgi qlo qtu i1 hok) (cwV 1 hts gL_act_X0_balance rfl rfl rfl hd_X0_balance ⟨Nat.le_of_ble_eq_true rfl, Nat.le_of_ble_eq_true rfl⟩) hK hP hD hS hA rfl rfl rfl hl.1 (Nat.le_of_ble_eq_true rfl) dL_act_34 rfl ⟨Nat.zero_le _, Nat.zero_le _⟩ (fun H locs hP hD hS => ?_)
  refine lv_goto (tgt := 217) hx hb dL_act_37 (by decide) ?_
  exact hret H locs _ 217 ls _ rfl hS hP hD rfl dL_act_217
set_option maxHeartbeats 4000000 in
set_option maxRecDepth 100000 in
theorem a_balance_1 (l : Launch) (hl0 : l.stackTraces = false) (dC : Nat → ClassId) (dI : Nat → Nat → Nat) (cI cZ : ClassId) (h : Nat) (a : Nat → Nat) (qph : AR) (qgr : AR) (qne : AR) (qap : AR) (qle : AR) (qfu : AR) (qpc : Int32) (qgd : Int32) (qri : Int32) (qnw : Int32) (qtk : Int32) (qsv : Int32) (qwa : AR) (qgi : AR) (qlo : AR) (qtu : AR) (i1 i2 i3 i4 : Int32) (hT : (X0_balance_T i1) = 1) : Lk l yL_act wsL_act rmxL_act dC dI cI cZ [.ref h, .int 2, .int i1, .int i2, .int i3, .int i4] (xW cI cZ h a qph qgr qne qap qle qfu qpc qgd qri qnw qtk qsv qwa qgi qlo qtu) (-70012) (fun w2 => w2 = (xW cI cZ h a qph qgr qne qap qle qfu qpc qgd qri qnw qtk qsv qwa qgi qlo qtu)) 1 6 := by
  refine lk_enterH (cc := cL_act) (maxL := 7) (by decide) rfl (Nat.le_of_ble_eq_true rfl) ?_
  intro p e s m args below meth c A ls Q hC htab hK hNs hZ hP hD hS hA hl hret
  obtain ⟨hx, hb, hml, hown, hts⟩ := id hC
  have hl : lv_has ls 7 [(0, .ref h), (1, .int 2), (2, .int i1), (3, .int i2), (4, .int i3), (5, .int i4)] := hl
  refine lv_iload_n hx hb dL_act_0 rfl (lv_at hl 1 rfl) ?_
  refine lv_if_ne (tgt := 13) hx hb dL_act_1 (by decide) (fun _ => ?_) (fun c => absurd c (by decide))
  refine lv_iload_n hx hb dL_act_13 rfl (lv_at hl 1 rfl) ?_
  refine lv_iconst (v := 1) hx hb dL_act_14 (by decide) ?_
  refine lv_icmp_ne (tgt := 27) hx hb dL_act_15 (by decide) (fun _ => ?_) (fun c => absurd c (by decide))
  refine lv_iload_n hx hb dL_act_27 rfl (lv_at hl 1 rfl) ?_
  refine lv_iconst (v := 2) hx hb dL_act_28 (by decide) ?_
  refine lv_icmp_ne (tgt := 40) hx hb dL_act_29 (by decide) (fun c => absurd (by decide) c) (fun _ => ?_)
  refine lv_aload_n hx hb dL_act_32 rfl (lv_at hl 0 rfl) ?_
  refine lv_iload_n hx hb dL_act_33 rfl (lv_at hl 2 rfl) ?_
  refine kx_callV (rest := []) (q0 := 0) hC (cx_X0_balance l hl0 dC dI cI cZ h a qph qgr qne qap qle qfu qpc qgd qri qnw qtk qsv qwa qgi qlo qtu i1 (by rw [hT]; decide)) (cwV 1 hts gL_act_X0_balance rfl rfl rfl hd_X0_balance ⟨Nat.le_of_ble_eq_true rfl, Nat.le_of_ble_eq_true rfl⟩) hK hNs hZ hP hD hS hA rfl rfl rfl hl.1 (Nat.le_of_ble_eq_true rfl) dL_act_34 rfl ⟨Nat.le_of_ble_eq_true rfl, Nat.le_of_ble_eq_true rfl⟩ (fun E ce q H locs hex hP hD hS hcell hv hcl => ?_)
  obtain ⟨hT2, rfl⟩ := hex
  refine vx_catch (name := nIA) hown [⟨0, 217, 218, 60⟩] ⟨0, 217, 223, 63⟩ [⟨0, 217, 228, 66⟩] (by rw [htab]; rfl) (fun z hz => by rcases List.mem_singleton.mp hz with rfl; exact Or.inr ⟨by decide, nIO, hts (.classLink RL 60 nIO) (by decide +kernel), hNs.2.2.1.1⟩) (by decide) (by decide) (hts (.classLink RL 63 nIA) (by decide +kernel)) (va_Nw.use rfl hNs.2.1.1) hcell hv hcl ?_
  refine lv_astore (lv' := [(6, .ref q), (0, .ref h), (1, .int 2), (2, .int i1), (3, .int i2), (4, .int i3), (5, .int i4)]) hx hb dL_act_223 hl (by decide) rfl (fun ls hl => ?_)
  refine lv_ldc (v := -70012) hx hb hown (hts (.constant RL 65 (-70012)) (by decide +kernel)) dL_act_225 ?_
  exact hret H locs _ 227 ls _ rfl hS hP hD rfl dL_act_227
set_option maxHeartbeats 4000000 in
set_option maxRecDepth 100000 in
theorem a_rule (l : Launch) (dC : Nat → ClassId) (dI : Nat → Nat → Nat) (cI cZ : ClassId) (h : Nat) (a : Nat → Nat) (qph : AR) (qgr : AR) (qne : AR) (qap : AR) (qle : AR) (qfu : AR) (qpc : Int32) (qgd : Int32) (qri : Int32) (qnw : Int32) (qtk : Int32) (qsv : Int32) (qwa : AR) (qgi : AR) (qlo : AR) (qtu : AR) (i1 i2 i3 i4 : Int32) (hok : (X0_rule_T i1) = 0) : Lk l yL_act wsL_act rmL_act dC dI cI cZ [.ref h, .int 3, .int i1, .int i2, .int i3, .int i4] (xW cI cZ h a qph qgr qne qap qle qfu qpc qgd qri qnw qtk qsv qwa qgi qlo qtu) ((X0_rule qri i1).1) (fun w2 => w2 = (xW cI cZ h a qph qgr qne qap qle qfu qpc qgd ((X0_rule qri i1).2) qnw qtk qsv qwa qgi qlo qtu)) 0 0 := by
  refine lk_enterH (cc := cL_act) (maxL := 7) (by decide) rfl (Nat.le_of_ble_eq_true rfl) ?_
  intro p e s m args below meth c A ls Q hC htab hK hNs hZ hP hD hS hA hl hret
  obtain ⟨hx, hb, hml, hown, hts⟩ := id hC
  have hl : lv_has ls 7 [(0, .ref h), (1, .int 3), (2, .int i1), (3, .int i2), (4, .int i3), (5, .int i4)] := hl
  refine lv_iload_n hx hb dL_act_0 rfl (lv_at hl 1 rfl) ?_
  refine lv_if_ne (tgt := 13) hx hb dL_act_1 (by decide) (fun _ => ?_) (fun c => absurd c (by decide))
  refine lv_iload_n hx hb dL_act_13 rfl (lv_at hl 1 rfl) ?_
  refine lv_iconst (v := 1) hx hb dL_act_14 (by decide) ?_
  refine lv_icmp_ne (tgt := 27) hx hb dL_act_15 (by decide) (fun _ => ?_) (fun c => absurd c (by decide))
  refine lv_iload_n hx hb dL_act_27 rfl (lv_at hl 1 rfl) ?_
  refine lv_iconst (v := 2) hx hb dL_act_28 (by decide) ?_
  refine lv_icmp_ne (tgt := 40) hx hb dL_act_29 (by decide) (fun _ => ?_) (fun c => absurd c (by decide))
  refine lv_iload_n hx hb dL_act_40 rfl (lv_at hl 1 rfl) ?_
  refine lv_iconst (v := 3) hx hb dL_act_41 (by decide) ?_
  refine lv_icmp_ne (tgt := 53) hx hb dL_act_42 (by decide) (fun c => absurd (by decide) c) (fun _ => ?_)
  refine lv_aload_n hx hb dL_act_45 rfl (lv_at hl 0 rfl) ?_
  refine lv_iload_n hx hb dL_act_46 rfl (lv_at hl 2 rfl) ?_
  refine k_calli (rest := []) (q0 := 0) hC (c_X0_rule l dC dI cI cZ h a qph qgr qne qap qle qfu qpc qgd qri qnw qtk qsv qwa qgi qlo qtu i1 hok) (cwV 1 hts gL_act_X0_rule rfl rfl rfl hd_X0_rule ⟨Nat.le_of_ble_eq_true rfl, Nat.le_of_ble_eq_true rfl⟩) hK hP hD hS hA rfl rfl rfl hl.1 (Nat.le_of_ble_eq_true rfl) dL_act_47 rfl ⟨Nat.zero_le _, Nat.zero_le _⟩ (fun H locs hP hD hS => ?_)
  refine lv_goto (tgt := 217) hx hb dL_act_50 (by decide) ?_
  exact hret H locs _ 217 ls _ rfl hS hP hD rfl dL_act_217
set_option maxHeartbeats 4000000 in
set_option maxRecDepth 100000 in
theorem a_rule_1 (l : Launch) (hl0 : l.stackTraces = false) (dC : Nat → ClassId) (dI : Nat → Nat → Nat) (cI cZ : ClassId) (h : Nat) (a : Nat → Nat) (qph : AR) (qgr : AR) (qne : AR) (qap : AR) (qle : AR) (qfu : AR) (qpc : Int32) (qgd : Int32) (qri : Int32) (qnw : Int32) (qtk : Int32) (qsv : Int32) (qwa : AR) (qgi : AR) (qlo : AR) (qtu : AR) (i1 i2 i3 i4 : Int32) (hT : (X0_rule_T i1) = 1) : Lk l yL_act wsL_act rmxL_act dC dI cI cZ [.ref h, .int 3, .int i1, .int i2, .int i3, .int i4] (xW cI cZ h a qph qgr qne qap qle qfu qpc qgd qri qnw qtk qsv qwa qgi qlo qtu) (-70012) (fun w2 => w2 = (xW cI cZ h a qph qgr qne qap qle qfu qpc qgd qri qnw qtk qsv qwa qgi qlo qtu)) 1 6 := by
  refine lk_enterH (cc := cL_act) (maxL := 7) (by decide) rfl (Nat.le_of_ble_eq_true rfl) ?_
  intro p e s m args below meth c A ls Q hC htab hK hNs hZ hP hD hS hA hl hret
  obtain ⟨hx, hb, hml, hown, hts⟩ := id hC
  have hl : lv_has ls 7 [(0, .ref h), (1, .int 3), (2, .int i1), (3, .int i2), (4, .int i3), (5, .int i4)] := hl
  refine lv_iload_n hx hb dL_act_0 rfl (lv_at hl 1 rfl) ?_
  refine lv_if_ne (tgt := 13) hx hb dL_act_1 (by decide) (fun _ => ?_) (fun c => absurd c (by decide))
  refine lv_iload_n hx hb dL_act_13 rfl (lv_at hl 1 rfl) ?_
  refine lv_iconst (v := 1) hx hb dL_act_14 (by decide) ?_
  refine lv_icmp_ne (tgt := 27) hx hb dL_act_15 (by decide) (fun _ => ?_) (fun c => absurd c (by decide))
  refine lv_iload_n hx hb dL_act_27 rfl (lv_at hl 1 rfl) ?_
  refine lv_iconst (v := 2) hx hb dL_act_28 (by decide) ?_
  refine lv_icmp_ne (tgt := 40) hx hb dL_act_29 (by decide) (fun _ => ?_) (fun c => absurd c (by decide))
  refine lv_iload_n hx hb dL_act_40 rfl (lv_at hl 1 rfl) ?_
  refine lv_iconst (v := 3) hx hb dL_act_41 (by decide) ?_
  refine lv_icmp_ne (tgt := 53) hx hb dL_act_42 (by decide) (fun c => absurd (by decide) c) (fun _ => ?_)
  refine lv_aload_n hx hb dL_act_45 rfl (lv_at hl 0 rfl) ?_
  refine lv_iload_n hx hb dL_act_46 rfl (lv_at hl 2 rfl) ?_
  refine kx_callV (rest := []) (q0 := 0) hC (cx_X0_rule l hl0 dC dI cI cZ h a qph qgr qne qap qle qfu qpc qgd qri qnw qtk qsv qwa qgi qlo qtu i1 (by rw [hT]; decide)) (cwV 1 hts gL_act_X0_rule rfl rfl rfl hd_X0_rule ⟨Nat.le_of_ble_eq_true rfl, Nat.le_of_ble_eq_true rfl⟩) hK hNs hZ hP hD hS hA rfl rfl rfl hl.1 (Nat.le_of_ble_eq_true rfl) dL_act_47 rfl ⟨Nat.le_of_ble_eq_true rfl, Nat.le_of_ble_eq_true rfl⟩ (fun E ce q H locs hex hP hD hS hcell hv hcl => ?_)
  obtain ⟨hT2, rfl⟩ := hex
  refine vx_catch (name := nIA) hown [⟨0, 217, 218, 60⟩] ⟨0, 217, 223, 63⟩ [⟨0, 217, 228, 66⟩] (by rw [htab]; rfl) (fun z hz => by rcases List.mem_singleton.mp hz with rfl; exact Or.inr ⟨by decide, nIO, hts (.classLink RL 60 nIO) (by decide +kernel), hNs.2.2.1.1⟩) (by decide) (by decide) (hts (.classLink RL 63 nIA) (by decide +kernel)) (va_Nw.use rfl hNs.2.1.1) hcell hv hcl ?_
  refine lv_astore (lv' := [(6, .ref q), (0, .ref h), (1, .int 3), (2, .int i1), (3, .int i2), (4, .int i3), (5, .int i4)]) hx hb dL_act_223 hl (by decide) rfl (fun ls hl => ?_)
  refine lv_ldc (v := -70012) hx hb hown (hts (.constant RL 65 (-70012)) (by decide +kernel)) dL_act_225 ?_
  exact hret H locs _ 227 ls _ rfl hS hP hD rfl dL_act_227
set_option maxHeartbeats 4000000 in
set_option maxRecDepth 100000 in
theorem a_plugIn (l : Launch) (dC : Nat → ClassId) (dI : Nat → Nat → Nat) (cI cZ : ClassId) (h : Nat) (a : Nat → Nat) (qph : AR) (qgr : AR) (qne : AR) (qap : AR) (qle : AR) (qfu : AR) (qpc : Int32) (qgd : Int32) (qri : Int32) (qnw : Int32) (qtk : Int32) (qsv : Int32) (qwa : AR) (qgi : AR) (qlo : AR) (qtu : AR) (n : Nat) (i1 i2 i3 i4 : Int32) (hpc : qpc = nI n) (hn : n ≤ 8) (hok : (X0_plugIn_T qne qpc n i1 i2 i3 i4) = 0) : Lk l yL_act wsL_act rmL_act dC dI cI cZ [.ref h, .int 4, .int i1, .int i2, .int i3, .int i4] (xW cI cZ h a qph qgr qne qap qle qfu qpc qgd qri qnw qtk qsv qwa qgi qlo qtu) ((X0_plugIn qph qgr qne qap qle qpc qnw n i1 i2 i3 i4).1) (fun w2 => w2 = (xW cI cZ h a qph qgr ((X0_plugIn qph qgr qne qap qle qpc qnw n i1 i2 i3 i4).2.1) ((X0_plugIn qph qgr qne qap qle qpc qnw n i1 i2 i3 i4).2.2.1) ((X0_plugIn qph qgr qne qap qle qpc qnw n i1 i2 i3 i4).2.2.2) qfu qpc qgd qri qnw qtk qsv qwa qgi qlo qtu)) 0 0 := by
  refine lk_enterH (cc := cL_act) (maxL := 7) (by decide) rfl (Nat.le_of_ble_eq_true rfl) ?_
  intro p e s m args below meth c A ls Q hC htab hK hNs hZ hP hD hS hA hl hret
  obtain ⟨hx, hb, hml, hown, hts⟩ := id hC
  have hl : lv_has ls 7 [(0, .ref h), (1, .int 4), (2, .int i1), (3, .int i2), (4, .int i3), (5, .int i4)] := hl
  refine lv_iload_n hx hb dL_act_0 rfl (lv_at hl 1 rfl) ?_
  refine lv_if_ne (tgt := 13) hx hb dL_act_1 (by decide) (fun _ => ?_) (fun c => absurd c (by decide))
  refine lv_iload_n hx hb dL_act_13 rfl (lv_at hl 1 rfl) ?_
  refine lv_iconst (v := 1) hx hb dL_act_14 (by decide) ?_
  refine lv_icmp_ne (tgt := 27) hx hb dL_act_15 (by decide) (fun _ => ?_) (fun c => absurd c (by decide))
  refine lv_iload_n hx hb dL_act_27 rfl (lv_at hl 1 rfl) ?_
  refine lv_iconst (v := 2) hx hb dL_act_28 (by decide) ?_
  refine lv_icmp_ne (tgt := 40) hx hb dL_act_29 (by decide) (fun _ => ?_) (fun c => absurd c (by decide))
  refine lv_iload_n hx hb dL_act_40 rfl (lv_at hl 1 rfl) ?_
  refine lv_iconst (v := 3) hx hb dL_act_41 (by decide) ?_
  refine lv_icmp_ne (tgt := 53) hx hb dL_act_42 (by decide) (fun _ => ?_) (fun c => absurd c (by decide))
  refine lv_iload_n hx hb dL_act_53 rfl (lv_at hl 1 rfl) ?_
  refine lv_iconst (v := 4) hx hb dL_act_54 (by decide) ?_
  refine lv_icmp_ne (tgt := 71) hx hb dL_act_55 (by decide) (fun c => absurd (by decide) c) (fun _ => ?_)
  refine lv_aload_n hx hb dL_act_58 rfl (lv_at hl 0 rfl) ?_
  refine lv_iload_n hx hb dL_act_59 rfl (lv_at hl 2 rfl) ?_
  refine lv_iload_n hx hb dL_act_60 rfl (lv_at hl 3 rfl) ?_
  refine lv_iload hx hb dL_act_61 (lv_at hl 4 rfl) ?_
  refine lv_iload hx hb dL_act_63 (lv_at hl 5 rfl) ?_
  refine k_calli (rest := []) (q0 := 0) hC (c_X0_plugIn l dC dI cI cZ h a qph qgr qne qap qle qfu qpc qgd qri qnw qtk qsv qwa qgi qlo qtu n i1 i2 i3 i4 hpc hn hok) (cwV 4 hts gL_act_X0_plugIn rfl rfl rfl hd_X0_plugIn ⟨Nat.le_of_ble_eq_true rfl, Nat.le_of_ble_eq_true rfl⟩) hK hP hD hS hA rfl rfl rfl hl.1 (Nat.le_of_ble_eq_true rfl) dL_act_65 rfl ⟨Nat.zero_le _, Nat.zero_le _⟩ (fun H locs hP hD hS => ?_)
  refine lv_goto (tgt := 217) hx hb dL_act_68 (by decide) ?_
  exact hret H locs _ 217 ls _ rfl hS hP hD rfl dL_act_217
set_option maxHeartbeats 4000000 in
set_option maxRecDepth 100000 in
theorem a_plugIn_1 (l : Launch) (hl0 : l.stackTraces = false) (dC : Nat → ClassId) (dI : Nat → Nat → Nat) (cI cZ : ClassId) (h : Nat) (a : Nat → Nat) (qph : AR) (qgr : AR) (qne : AR) (qap : AR) (qle : AR) (qfu : AR) (qpc : Int32) (qgd : Int32) (qri : Int32) (qnw : Int32) (qtk : Int32) (qsv : Int32) (qwa : AR) (qgi : AR) (qlo : AR) (qtu : AR) (n : Nat) (i1 i2 i3 i4 : Int32) (hpc : qpc = nI n) (hn : n ≤ 8) (hT : (X0_plugIn_T qne qpc n i1 i2 i3 i4) = 1) : Lk l yL_act wsL_act rmxL_act dC dI cI cZ [.ref h, .int 4, .int i1, .int i2, .int i3, .int i4] (xW cI cZ h a qph qgr qne qap qle qfu qpc qgd qri qnw qtk qsv qwa qgi qlo qtu) (-70011) (fun w2 => w2 = (xW cI cZ h a qph qgr qne qap qle qfu qpc qgd qri qnw qtk qsv qwa qgi qlo qtu)) 1 6 := by
  refine lk_enterH (cc := cL_act) (maxL := 7) (by decide) rfl (Nat.le_of_ble_eq_true rfl) ?_
  intro p e s m args below meth c A ls Q hC htab hK hNs hZ hP hD hS hA hl hret
  obtain ⟨hx, hb, hml, hown, hts⟩ := id hC
  have hl : lv_has ls 7 [(0, .ref h), (1, .int 4), (2, .int i1), (3, .int i2), (4, .int i3), (5, .int i4)] := hl
  refine lv_iload_n hx hb dL_act_0 rfl (lv_at hl 1 rfl) ?_
  refine lv_if_ne (tgt := 13) hx hb dL_act_1 (by decide) (fun _ => ?_) (fun c => absurd c (by decide))
  refine lv_iload_n hx hb dL_act_13 rfl (lv_at hl 1 rfl) ?_
  refine lv_iconst (v := 1) hx hb dL_act_14 (by decide) ?_
  refine lv_icmp_ne (tgt := 27) hx hb dL_act_15 (by decide) (fun _ => ?_) (fun c => absurd c (by decide))
  refine lv_iload_n hx hb dL_act_27 rfl (lv_at hl 1 rfl) ?_
  refine lv_iconst (v := 2) hx hb dL_act_28 (by decide) ?_
  refine lv_icmp_ne (tgt := 40) hx hb dL_act_29 (by decide) (fun _ => ?_) (fun c => absurd c (by decide))
  refine lv_iload_n hx hb dL_act_40 rfl (lv_at hl 1 rfl) ?_
  refine lv_iconst (v := 3) hx hb dL_act_41 (by decide) ?_
  refine lv_icmp_ne (tgt := 53) hx hb dL_act_42 (by decide) (fun _ => ?_) (fun c => absurd c (by decide))
  refine lv_iload_n hx hb dL_act_53 rfl (lv_at hl 1 rfl) ?_
  refine lv_iconst (v := 4) hx hb dL_act_54 (by decide) ?_
  refine lv_icmp_ne (tgt := 71) hx hb dL_act_55 (by decide) (fun c => absurd (by decide) c) (fun _ => ?_)
  refine lv_aload_n hx hb dL_act_58 rfl (lv_at hl 0 rfl) ?_
  refine lv_iload_n hx hb dL_act_59 rfl (lv_at hl 2 rfl) ?_
  refine lv_iload_n hx hb dL_act_60 rfl (lv_at hl 3 rfl) ?_
  refine lv_iload hx hb dL_act_61 (lv_at hl 4 rfl) ?_
  refine lv_iload hx hb dL_act_63 (lv_at hl 5 rfl) ?_
  refine kx_callV (rest := []) (q0 := 0) hC (cx_X0_plugIn l hl0 dC dI cI cZ h a qph qgr qne qap qle qfu qpc qgd qri qnw qtk qsv qwa qgi qlo qtu n i1 i2 i3 i4 hpc hn (by rw [hT]; decide)) (cwV 4 hts gL_act_X0_plugIn rfl rfl rfl hd_X0_plugIn ⟨Nat.le_of_ble_eq_true rfl, Nat.le_of_ble_eq_true rfl⟩) hK hNs hZ hP hD hS hA rfl rfl rfl hl.1 (Nat.le_of_ble_eq_true rfl) dL_act_65 rfl ⟨Nat.le_of_ble_eq_true rfl, Nat.le_of_ble_eq_true rfl⟩ (fun E ce q H locs hex hP hD hS hcell hv hcl => ?_)
  rcases hex with ⟨hT2, rfl⟩ | ⟨hT2, rfl⟩ | ⟨hT2, rfl⟩
  · refine vx_catch (name := nIO) hown [] ⟨0, 217, 218, 60⟩ [⟨0, 217, 223, 63⟩, ⟨0, 217, 228, 66⟩] (by rw [htab]; rfl) (fun z hz => nomatch hz) (by decide) (by decide) (hts (.classLink RL 60 nIO) (by decide +kernel)) (va_Nw.use rfl hNs.2.1.2.2) hcell hv hcl ?_
    refine lv_astore (lv' := [(6, .ref q), (0, .ref h), (1, .int 4), (2, .int i1), (3, .int i2), (4, .int i3), (5, .int i4)]) hx hb dL_act_218 hl (by decide) rfl (fun ls hl => ?_)
    refine lv_ldc (v := -70011) hx hb hown (hts (.constant RL 62 (-70011)) (by decide +kernel)) dL_act_220 ?_
    exact hret H locs _ 222 ls _ rfl hS hP hD rfl dL_act_222
  · exact absurd (hT.symm.trans hT2) (by decide)
  · exact absurd (hT.symm.trans hT2) (by decide)
set_option maxHeartbeats 4000000 in
set_option maxRecDepth 100000 in
theorem a_plugIn_2 (l : Launch) (hl0 : l.stackTraces = false) (dC : Nat → ClassId) (dI : Nat → Nat → Nat) (cI cZ : ClassId) (h : Nat) (a : Nat → Nat) (qph : AR) (qgr : AR) (qne : AR) (qap : AR) (qle : AR) (qfu : AR) (qpc : Int32) (qgd : Int32) (qri : Int32) (qnw : Int32) (qtk : Int32) (qsv : Int32) (qwa : AR) (qgi : AR) (qlo : AR) (qtu : AR) (n : Nat) (i1 i2 i3 i4 : Int32) (hpc : qpc = nI n) (hn : n ≤ 8) (hT : (X0_plugIn_T qne qpc n i1 i2 i3 i4) = 2) : Lk l yL_act wsL_act rmxL_act dC dI cI cZ [.ref h, .int 4, .int i1, .int i2, .int i3, .int i4] (xW cI cZ h a qph qgr qne qap qle qfu qpc qgd qri qnw qtk qsv qwa qgi qlo qtu) (-70012) (fun w2 => w2 = (xW cI cZ h a qph qgr qne qap qle qfu qpc qgd qri qnw qtk qsv qwa qgi qlo qtu)) 1 6 := by
  refine lk_enterH (cc := cL_act) (maxL := 7) (by decide) rfl (Nat.le_of_ble_eq_true rfl) ?_
  intro p e s m args below meth c A ls Q hC htab hK hNs hZ hP hD hS hA hl hret
  obtain ⟨hx, hb, hml, hown, hts⟩ := id hC
  have hl : lv_has ls 7 [(0, .ref h), (1, .int 4), (2, .int i1), (3, .int i2), (4, .int i3), (5, .int i4)] := hl
  refine lv_iload_n hx hb dL_act_0 rfl (lv_at hl 1 rfl) ?_
  refine lv_if_ne (tgt := 13) hx hb dL_act_1 (by decide) (fun _ => ?_) (fun c => absurd c (by decide))
  refine lv_iload_n hx hb dL_act_13 rfl (lv_at hl 1 rfl) ?_
  refine lv_iconst (v := 1) hx hb dL_act_14 (by decide) ?_
  refine lv_icmp_ne (tgt := 27) hx hb dL_act_15 (by decide) (fun _ => ?_) (fun c => absurd c (by decide))
  refine lv_iload_n hx hb dL_act_27 rfl (lv_at hl 1 rfl) ?_
  refine lv_iconst (v := 2) hx hb dL_act_28 (by decide) ?_
  refine lv_icmp_ne (tgt := 40) hx hb dL_act_29 (by decide) (fun _ => ?_) (fun c => absurd c (by decide))
  refine lv_iload_n hx hb dL_act_40 rfl (lv_at hl 1 rfl) ?_
  refine lv_iconst (v := 3) hx hb dL_act_41 (by decide) ?_
  refine lv_icmp_ne (tgt := 53) hx hb dL_act_42 (by decide) (fun _ => ?_) (fun c => absurd c (by decide))
  refine lv_iload_n hx hb dL_act_53 rfl (lv_at hl 1 rfl) ?_
  refine lv_iconst (v := 4) hx hb dL_act_54 (by decide) ?_
  refine lv_icmp_ne (tgt := 71) hx hb dL_act_55 (by decide) (fun c => absurd (by decide) c) (fun _ => ?_)
  refine lv_aload_n hx hb dL_act_58 rfl (lv_at hl 0 rfl) ?_
  refine lv_iload_n hx hb dL_act_59 rfl (lv_at hl 2 rfl) ?_
  refine lv_iload_n hx hb dL_act_60 rfl (lv_at hl 3 rfl) ?_
  refine lv_iload hx hb dL_act_61 (lv_at hl 4 rfl) ?_
  refine lv_iload hx hb dL_act_63 (lv_at hl 5 rfl) ?_
  refine kx_callV (rest := []) (q0 := 0) hC (cx_X0_plugIn l hl0 dC dI cI cZ h a qph qgr qne qap qle qfu qpc qgd qri qnw qtk qsv qwa qgi qlo qtu n i1 i2 i3 i4 hpc hn (by rw [hT]; decide)) (cwV 4 hts gL_act_X0_plugIn rfl rfl rfl hd_X0_plugIn ⟨Nat.le_of_ble_eq_true rfl, Nat.le_of_ble_eq_true rfl⟩) hK hNs hZ hP hD hS hA rfl rfl rfl hl.1 (Nat.le_of_ble_eq_true rfl) dL_act_65 rfl ⟨Nat.le_of_ble_eq_true rfl, Nat.le_of_ble_eq_true rfl⟩ (fun E ce q H locs hex hP hD hS hcell hv hcl => ?_)
  rcases hex with ⟨hT2, rfl⟩ | ⟨hT2, rfl⟩ | ⟨hT2, rfl⟩
  · exact absurd (hT.symm.trans hT2) (by decide)
  · refine vx_catch (name := nIA) hown [⟨0, 217, 218, 60⟩] ⟨0, 217, 223, 63⟩ [⟨0, 217, 228, 66⟩] (by rw [htab]; rfl) (fun z hz => by rcases List.mem_singleton.mp hz with rfl; exact Or.inr ⟨by decide, nIO, hts (.classLink RL 60 nIO) (by decide +kernel), hNs.2.2.1.1⟩) (by decide) (by decide) (hts (.classLink RL 63 nIA) (by decide +kernel)) (va_Nw.use rfl hNs.2.1.1) hcell hv hcl ?_
    refine lv_astore (lv' := [(6, .ref q), (0, .ref h), (1, .int 4), (2, .int i1), (3, .int i2), (4, .int i3), (5, .int i4)]) hx hb dL_act_223 hl (by decide) rfl (fun ls hl => ?_)
    refine lv_ldc (v := -70012) hx hb hown (hts (.constant RL 65 (-70012)) (by decide +kernel)) dL_act_225 ?_
    exact hret H locs _ 227 ls _ rfl hS hP hD rfl dL_act_227
  · exact absurd (hT.symm.trans hT2) (by decide)
set_option maxHeartbeats 4000000 in
set_option maxRecDepth 100000 in
theorem a_plugIn_3 (l : Launch) (hl0 : l.stackTraces = false) (dC : Nat → ClassId) (dI : Nat → Nat → Nat) (cI cZ : ClassId) (h : Nat) (a : Nat → Nat) (qph : AR) (qgr : AR) (qne : AR) (qap : AR) (qle : AR) (qfu : AR) (qpc : Int32) (qgd : Int32) (qri : Int32) (qnw : Int32) (qtk : Int32) (qsv : Int32) (qwa : AR) (qgi : AR) (qlo : AR) (qtu : AR) (n : Nat) (i1 i2 i3 i4 : Int32) (hpc : qpc = nI n) (hn : n ≤ 8) (hT : (X0_plugIn_T qne qpc n i1 i2 i3 i4) = 3) : Lk l yL_act wsL_act rmxL_act dC dI cI cZ [.ref h, .int 4, .int i1, .int i2, .int i3, .int i4] (xW cI cZ h a qph qgr qne qap qle qfu qpc qgd qri qnw qtk qsv qwa qgi qlo qtu) (-70013) (fun w2 => w2 = (xW cI cZ h a qph qgr qne qap qle qfu qpc qgd qri qnw qtk qsv qwa qgi qlo qtu)) 1 6 := by
  refine lk_enterH (cc := cL_act) (maxL := 7) (by decide) rfl (Nat.le_of_ble_eq_true rfl) ?_
  intro p e s m args below meth c A ls Q hC htab hK hNs hZ hP hD hS hA hl hret
  obtain ⟨hx, hb, hml, hown, hts⟩ := id hC
  have hl : lv_has ls 7 [(0, .ref h), (1, .int 4), (2, .int i1), (3, .int i2), (4, .int i3), (5, .int i4)] := hl
  refine lv_iload_n hx hb dL_act_0 rfl (lv_at hl 1 rfl) ?_
  refine lv_if_ne (tgt := 13) hx hb dL_act_1 (by decide) (fun _ => ?_) (fun c => absurd c (by decide))
  refine lv_iload_n hx hb dL_act_13 rfl (lv_at hl 1 rfl) ?_
  refine lv_iconst (v := 1) hx hb dL_act_14 (by decide) ?_
  refine lv_icmp_ne (tgt := 27) hx hb dL_act_15 (by decide) (fun _ => ?_) (fun c => absurd c (by decide))
  refine lv_iload_n hx hb dL_act_27 rfl (lv_at hl 1 rfl) ?_
  refine lv_iconst (v := 2) hx hb dL_act_28 (by decide) ?_
  refine lv_icmp_ne (tgt := 40) hx hb dL_act_29 (by decide) (fun _ => ?_) (fun c => absurd c (by decide))
  refine lv_iload_n hx hb dL_act_40 rfl (lv_at hl 1 rfl) ?_
  refine lv_iconst (v := 3) hx hb dL_act_41 (by decide) ?_
  refine lv_icmp_ne (tgt := 53) hx hb dL_act_42 (by decide) (fun _ => ?_) (fun c => absurd c (by decide))
  refine lv_iload_n hx hb dL_act_53 rfl (lv_at hl 1 rfl) ?_
  refine lv_iconst (v := 4) hx hb dL_act_54 (by decide) ?_
  refine lv_icmp_ne (tgt := 71) hx hb dL_act_55 (by decide) (fun c => absurd (by decide) c) (fun _ => ?_)
  refine lv_aload_n hx hb dL_act_58 rfl (lv_at hl 0 rfl) ?_
  refine lv_iload_n hx hb dL_act_59 rfl (lv_at hl 2 rfl) ?_
  refine lv_iload_n hx hb dL_act_60 rfl (lv_at hl 3 rfl) ?_
  refine lv_iload hx hb dL_act_61 (lv_at hl 4 rfl) ?_
  refine lv_iload hx hb dL_act_63 (lv_at hl 5 rfl) ?_
  refine kx_callV (rest := []) (q0 := 0) hC (cx_X0_plugIn l hl0 dC dI cI cZ h a qph qgr qne qap qle qfu qpc qgd qri qnw qtk qsv qwa qgi qlo qtu n i1 i2 i3 i4 hpc hn (by rw [hT]; decide)) (cwV 4 hts gL_act_X0_plugIn rfl rfl rfl hd_X0_plugIn ⟨Nat.le_of_ble_eq_true rfl, Nat.le_of_ble_eq_true rfl⟩) hK hNs hZ hP hD hS hA rfl rfl rfl hl.1 (Nat.le_of_ble_eq_true rfl) dL_act_65 rfl ⟨Nat.le_of_ble_eq_true rfl, Nat.le_of_ble_eq_true rfl⟩ (fun E ce q H locs hex hP hD hS hcell hv hcl => ?_)
  rcases hex with ⟨hT2, rfl⟩ | ⟨hT2, rfl⟩ | ⟨hT2, rfl⟩
  · exact absurd (hT.symm.trans hT2) (by decide)
  · exact absurd (hT.symm.trans hT2) (by decide)
  · refine vx_catch (name := nIS) hown [⟨0, 217, 218, 60⟩, ⟨0, 217, 223, 63⟩] ⟨0, 217, 228, 66⟩ [] (by rw [htab]; rfl) (fun z hz => by
        rcases List.mem_cons.mp hz with rfl | hz
        · exact Or.inr ⟨by decide, nIO, hts (.classLink RL 60 nIO) (by decide +kernel), hNs.2.2.1.2.1⟩
        · rcases List.mem_singleton.mp hz with rfl
          exact Or.inr ⟨by decide, nIA, hts (.classLink RL 63 nIA) (by decide +kernel), hNs.2.2.1.2.2⟩) (by decide) (by decide) (hts (.classLink RL 66 nIS) (by decide +kernel)) (va_Nw.use rfl hNs.2.1.2.1) hcell hv hcl ?_
    refine lv_astore (lv' := [(6, .ref q), (0, .ref h), (1, .int 4), (2, .int i1), (3, .int i2), (4, .int i3), (5, .int i4)]) hx hb dL_act_228 hl (by decide) rfl (fun ls hl => ?_)
    refine lv_ldc (v := -70013) hx hb hown (hts (.constant RL 68 (-70013)) (by decide +kernel)) dL_act_230 ?_
    exact hret H locs _ 232 ls _ rfl hS hP hD rfl dL_act_232
set_option maxHeartbeats 4000000 in
set_option maxRecDepth 100000 in
theorem a_takeOut (l : Launch) (dC : Nat → ClassId) (dI : Nat → Nat → Nat) (cI cZ : ClassId) (h : Nat) (a : Nat → Nat) (qph : AR) (qgr : AR) (qne : AR) (qap : AR) (qle : AR) (qfu : AR) (qpc : Int32) (qgd : Int32) (qri : Int32) (qnw : Int32) (qtk : Int32) (qsv : Int32) (qwa : AR) (qgi : AR) (qlo : AR) (qtu : AR) (n : Nat) (i1 i2 i3 i4 : Int32) (hpc : qpc = nI n) (hn : n ≤ 8) (hok : (X0_takeOut_T qne qpc n i1) = 0) : Lk l yL_act wsL_act rmL_act dC dI cI cZ [.ref h, .int 5, .int i1, .int i2, .int i3, .int i4] (xW cI cZ h a qph qgr qne qap qle qfu qpc qgd qri qnw qtk qsv qwa qgi qlo qtu) ((X0_takeOut qne qpc qsv n i1).1) (fun w2 => w2 = (xW cI cZ h a qph qgr ((X0_takeOut qne qpc qsv n i1).2.1) qap qle qfu qpc qgd qri qnw qtk ((X0_takeOut qne qpc qsv n i1).2.2) qwa qgi qlo qtu)) 0 0 := by
  refine lk_enterH (cc := cL_act) (maxL := 7) (by decide) rfl (Nat.le_of_ble_eq_true rfl) ?_
  intro p e s m args below meth c A ls Q hC htab hK hNs hZ hP hD hS hA hl hret
  obtain ⟨hx, hb, hml, hown, hts⟩ := id hC
  have hl : lv_has ls 7 [(0, .ref h), (1, .int 5), (2, .int i1), (3, .int i2), (4, .int i3), (5, .int i4)] := hl
  refine lv_iload_n hx hb dL_act_0 rfl (lv_at hl 1 rfl) ?_
  refine lv_if_ne (tgt := 13) hx hb dL_act_1 (by decide) (fun _ => ?_) (fun c => absurd c (by decide))
  refine lv_iload_n hx hb dL_act_13 rfl (lv_at hl 1 rfl) ?_
  refine lv_iconst (v := 1) hx hb dL_act_14 (by decide) ?_
  refine lv_icmp_ne (tgt := 27) hx hb dL_act_15 (by decide) (fun _ => ?_) (fun c => absurd c (by decide))
  refine lv_iload_n hx hb dL_act_27 rfl (lv_at hl 1 rfl) ?_
  refine lv_iconst (v := 2) hx hb dL_act_28 (by decide) ?_
  refine lv_icmp_ne (tgt := 40) hx hb dL_act_29 (by decide) (fun _ => ?_) (fun c => absurd c (by decide))
  refine lv_iload_n hx hb dL_act_40 rfl (lv_at hl 1 rfl) ?_
  refine lv_iconst (v := 3) hx hb dL_act_41 (by decide) ?_
  refine lv_icmp_ne (tgt := 53) hx hb dL_act_42 (by decide) (fun _ => ?_) (fun c => absurd c (by decide))
  refine lv_iload_n hx hb dL_act_53 rfl (lv_at hl 1 rfl) ?_
  refine lv_iconst (v := 4) hx hb dL_act_54 (by decide) ?_
  refine lv_icmp_ne (tgt := 71) hx hb dL_act_55 (by decide) (fun _ => ?_) (fun c => absurd c (by decide))
  refine lv_iload_n hx hb dL_act_71 rfl (lv_at hl 1 rfl) ?_
  refine lv_iconst (v := 5) hx hb dL_act_72 (by decide) ?_
  refine lv_icmp_ne (tgt := 84) hx hb dL_act_73 (by decide) (fun c => absurd (by decide) c) (fun _ => ?_)
  refine lv_aload_n hx hb dL_act_76 rfl (lv_at hl 0 rfl) ?_
  refine lv_iload_n hx hb dL_act_77 rfl (lv_at hl 2 rfl) ?_
  refine k_calli (rest := []) (q0 := 0) hC (c_X0_takeOut l dC dI cI cZ h a qph qgr qne qap qle qfu qpc qgd qri qnw qtk qsv qwa qgi qlo qtu n i1 hpc hn hok) (cwV 1 hts gL_act_X0_takeOut rfl rfl rfl hd_X0_takeOut ⟨Nat.le_of_ble_eq_true rfl, Nat.le_of_ble_eq_true rfl⟩) hK hP hD hS hA rfl rfl rfl hl.1 (Nat.le_of_ble_eq_true rfl) dL_act_78 rfl ⟨Nat.zero_le _, Nat.zero_le _⟩ (fun H locs hP hD hS => ?_)
  refine lv_goto (tgt := 217) hx hb dL_act_81 (by decide) ?_
  exact hret H locs _ 217 ls _ rfl hS hP hD rfl dL_act_217
set_option maxHeartbeats 4000000 in
set_option maxRecDepth 100000 in
theorem a_takeOut_1 (l : Launch) (hl0 : l.stackTraces = false) (dC : Nat → ClassId) (dI : Nat → Nat → Nat) (cI cZ : ClassId) (h : Nat) (a : Nat → Nat) (qph : AR) (qgr : AR) (qne : AR) (qap : AR) (qle : AR) (qfu : AR) (qpc : Int32) (qgd : Int32) (qri : Int32) (qnw : Int32) (qtk : Int32) (qsv : Int32) (qwa : AR) (qgi : AR) (qlo : AR) (qtu : AR) (n : Nat) (i1 i2 i3 i4 : Int32) (hpc : qpc = nI n) (hn : n ≤ 8) (hT : (X0_takeOut_T qne qpc n i1) = 1) : Lk l yL_act wsL_act rmxL_act dC dI cI cZ [.ref h, .int 5, .int i1, .int i2, .int i3, .int i4] (xW cI cZ h a qph qgr qne qap qle qfu qpc qgd qri qnw qtk qsv qwa qgi qlo qtu) (-70011) (fun w2 => w2 = (xW cI cZ h a qph qgr qne qap qle qfu qpc qgd qri qnw qtk qsv qwa qgi qlo qtu)) 1 6 := by
  refine lk_enterH (cc := cL_act) (maxL := 7) (by decide) rfl (Nat.le_of_ble_eq_true rfl) ?_
  intro p e s m args below meth c A ls Q hC htab hK hNs hZ hP hD hS hA hl hret
  obtain ⟨hx, hb, hml, hown, hts⟩ := id hC
  have hl : lv_has ls 7 [(0, .ref h), (1, .int 5), (2, .int i1), (3, .int i2), (4, .int i3), (5, .int i4)] := hl
  refine lv_iload_n hx hb dL_act_0 rfl (lv_at hl 1 rfl) ?_
  refine lv_if_ne (tgt := 13) hx hb dL_act_1 (by decide) (fun _ => ?_) (fun c => absurd c (by decide))
  refine lv_iload_n hx hb dL_act_13 rfl (lv_at hl 1 rfl) ?_
  refine lv_iconst (v := 1) hx hb dL_act_14 (by decide) ?_
  refine lv_icmp_ne (tgt := 27) hx hb dL_act_15 (by decide) (fun _ => ?_) (fun c => absurd c (by decide))
  refine lv_iload_n hx hb dL_act_27 rfl (lv_at hl 1 rfl) ?_
  refine lv_iconst (v := 2) hx hb dL_act_28 (by decide) ?_
  refine lv_icmp_ne (tgt := 40) hx hb dL_act_29 (by decide) (fun _ => ?_) (fun c => absurd c (by decide))
  refine lv_iload_n hx hb dL_act_40 rfl (lv_at hl 1 rfl) ?_
  refine lv_iconst (v := 3) hx hb dL_act_41 (by decide) ?_
  refine lv_icmp_ne (tgt := 53) hx hb dL_act_42 (by decide) (fun _ => ?_) (fun c => absurd c (by decide))
  refine lv_iload_n hx hb dL_act_53 rfl (lv_at hl 1 rfl) ?_
  refine lv_iconst (v := 4) hx hb dL_act_54 (by decide) ?_
  refine lv_icmp_ne (tgt := 71) hx hb dL_act_55 (by decide) (fun _ => ?_) (fun c => absurd c (by decide))
  refine lv_iload_n hx hb dL_act_71 rfl (lv_at hl 1 rfl) ?_
  refine lv_iconst (v := 5) hx hb dL_act_72 (by decide) ?_
  refine lv_icmp_ne (tgt := 84) hx hb dL_act_73 (by decide) (fun c => absurd (by decide) c) (fun _ => ?_)
  refine lv_aload_n hx hb dL_act_76 rfl (lv_at hl 0 rfl) ?_
  refine lv_iload_n hx hb dL_act_77 rfl (lv_at hl 2 rfl) ?_
  refine kx_callV (rest := []) (q0 := 0) hC (cx_X0_takeOut l hl0 dC dI cI cZ h a qph qgr qne qap qle qfu qpc qgd qri qnw qtk qsv qwa qgi qlo qtu n i1 hpc hn (by rw [hT]; decide)) (cwV 1 hts gL_act_X0_takeOut rfl rfl rfl hd_X0_takeOut ⟨Nat.le_of_ble_eq_true rfl, Nat.le_of_ble_eq_true rfl⟩) hK hNs hZ hP hD hS hA rfl rfl rfl hl.1 (Nat.le_of_ble_eq_true rfl) dL_act_78 rfl ⟨Nat.le_of_ble_eq_true rfl, Nat.le_of_ble_eq_true rfl⟩ (fun E ce q H locs hex hP hD hS hcell hv hcl => ?_)
  rcases hex with ⟨hT2, rfl⟩ | ⟨hT2, rfl⟩
  · refine vx_catch (name := nIO) hown [] ⟨0, 217, 218, 60⟩ [⟨0, 217, 223, 63⟩, ⟨0, 217, 228, 66⟩] (by rw [htab]; rfl) (fun z hz => nomatch hz) (by decide) (by decide) (hts (.classLink RL 60 nIO) (by decide +kernel)) (va_Nw.use rfl hNs.2.1.2.2) hcell hv hcl ?_
    refine lv_astore (lv' := [(6, .ref q), (0, .ref h), (1, .int 5), (2, .int i1), (3, .int i2), (4, .int i3), (5, .int i4)]) hx hb dL_act_218 hl (by decide) rfl (fun ls hl => ?_)
    refine lv_ldc (v := -70011) hx hb hown (hts (.constant RL 62 (-70011)) (by decide +kernel)) dL_act_220 ?_
    exact hret H locs _ 222 ls _ rfl hS hP hD rfl dL_act_222
  · exact absurd (hT.symm.trans hT2) (by decide)
set_option maxHeartbeats 4000000 in
set_option maxRecDepth 100000 in
theorem a_takeOut_2 (l : Launch) (hl0 : l.stackTraces = false) (dC : Nat → ClassId) (dI : Nat → Nat → Nat) (cI cZ : ClassId) (h : Nat) (a : Nat → Nat) (qph : AR) (qgr : AR) (qne : AR) (qap : AR) (qle : AR) (qfu : AR) (qpc : Int32) (qgd : Int32) (qri : Int32) (qnw : Int32) (qtk : Int32) (qsv : Int32) (qwa : AR) (qgi : AR) (qlo : AR) (qtu : AR) (n : Nat) (i1 i2 i3 i4 : Int32) (hpc : qpc = nI n) (hn : n ≤ 8) (hT : (X0_takeOut_T qne qpc n i1) = 2) : Lk l yL_act wsL_act rmxL_act dC dI cI cZ [.ref h, .int 5, .int i1, .int i2, .int i3, .int i4] (xW cI cZ h a qph qgr qne qap qle qfu qpc qgd qri qnw qtk qsv qwa qgi qlo qtu) (-70013) (fun w2 => w2 = (xW cI cZ h a qph qgr qne qap qle qfu qpc qgd qri qnw qtk qsv qwa qgi qlo qtu)) 1 6 := by
  refine lk_enterH (cc := cL_act) (maxL := 7) (by decide) rfl (Nat.le_of_ble_eq_true rfl) ?_
  intro p e s m args below meth c A ls Q hC htab hK hNs hZ hP hD hS hA hl hret
  obtain ⟨hx, hb, hml, hown, hts⟩ := id hC
  have hl : lv_has ls 7 [(0, .ref h), (1, .int 5), (2, .int i1), (3, .int i2), (4, .int i3), (5, .int i4)] := hl
  refine lv_iload_n hx hb dL_act_0 rfl (lv_at hl 1 rfl) ?_
  refine lv_if_ne (tgt := 13) hx hb dL_act_1 (by decide) (fun _ => ?_) (fun c => absurd c (by decide))
  refine lv_iload_n hx hb dL_act_13 rfl (lv_at hl 1 rfl) ?_
  refine lv_iconst (v := 1) hx hb dL_act_14 (by decide) ?_
  refine lv_icmp_ne (tgt := 27) hx hb dL_act_15 (by decide) (fun _ => ?_) (fun c => absurd c (by decide))
  refine lv_iload_n hx hb dL_act_27 rfl (lv_at hl 1 rfl) ?_
  refine lv_iconst (v := 2) hx hb dL_act_28 (by decide) ?_
  refine lv_icmp_ne (tgt := 40) hx hb dL_act_29 (by decide) (fun _ => ?_) (fun c => absurd c (by decide))
  refine lv_iload_n hx hb dL_act_40 rfl (lv_at hl 1 rfl) ?_
  refine lv_iconst (v := 3) hx hb dL_act_41 (by decide) ?_
  refine lv_icmp_ne (tgt := 53) hx hb dL_act_42 (by decide) (fun _ => ?_) (fun c => absurd c (by decide))
  refine lv_iload_n hx hb dL_act_53 rfl (lv_at hl 1 rfl) ?_
  refine lv_iconst (v := 4) hx hb dL_act_54 (by decide) ?_
  refine lv_icmp_ne (tgt := 71) hx hb dL_act_55 (by decide) (fun _ => ?_) (fun c => absurd c (by decide))
  refine lv_iload_n hx hb dL_act_71 rfl (lv_at hl 1 rfl) ?_
  refine lv_iconst (v := 5) hx hb dL_act_72 (by decide) ?_
  refine lv_icmp_ne (tgt := 84) hx hb dL_act_73 (by decide) (fun c => absurd (by decide) c) (fun _ => ?_)
  refine lv_aload_n hx hb dL_act_76 rfl (lv_at hl 0 rfl) ?_
  refine lv_iload_n hx hb dL_act_77 rfl (lv_at hl 2 rfl) ?_
  refine kx_callV (rest := []) (q0 := 0) hC (cx_X0_takeOut l hl0 dC dI cI cZ h a qph qgr qne qap qle qfu qpc qgd qri qnw qtk qsv qwa qgi qlo qtu n i1 hpc hn (by rw [hT]; decide)) (cwV 1 hts gL_act_X0_takeOut rfl rfl rfl hd_X0_takeOut ⟨Nat.le_of_ble_eq_true rfl, Nat.le_of_ble_eq_true rfl⟩) hK hNs hZ hP hD hS hA rfl rfl rfl hl.1 (Nat.le_of_ble_eq_true rfl) dL_act_78 rfl ⟨Nat.le_of_ble_eq_true rfl, Nat.le_of_ble_eq_true rfl⟩ (fun E ce q H locs hex hP hD hS hcell hv hcl => ?_)
  rcases hex with ⟨hT2, rfl⟩ | ⟨hT2, rfl⟩
  · exact absurd (hT.symm.trans hT2) (by decide)
  · refine vx_catch (name := nIS) hown [⟨0, 217, 218, 60⟩, ⟨0, 217, 223, 63⟩] ⟨0, 217, 228, 66⟩ [] (by rw [htab]; rfl) (fun z hz => by
        rcases List.mem_cons.mp hz with rfl | hz
        · exact Or.inr ⟨by decide, nIO, hts (.classLink RL 60 nIO) (by decide +kernel), hNs.2.2.1.2.1⟩
        · rcases List.mem_singleton.mp hz with rfl
          exact Or.inr ⟨by decide, nIA, hts (.classLink RL 63 nIA) (by decide +kernel), hNs.2.2.1.2.2⟩) (by decide) (by decide) (hts (.classLink RL 66 nIS) (by decide +kernel)) (va_Nw.use rfl hNs.2.1.2.1) hcell hv hcl ?_
    refine lv_astore (lv' := [(6, .ref q), (0, .ref h), (1, .int 5), (2, .int i1), (3, .int i2), (4, .int i3), (5, .int i4)]) hx hb dL_act_228 hl (by decide) rfl (fun ls hl => ?_)
    refine lv_ldc (v := -70013) hx hb hown (hts (.constant RL 68 (-70013)) (by decide +kernel)) dL_act_230 ?_
    exact hret H locs _ 232 ls _ rfl hS hP hD rfl dL_act_232
set_option maxHeartbeats 4000000 in
set_option maxRecDepth 100000 in
theorem a_appetite (l : Launch) (dC : Nat → ClassId) (dI : Nat → Nat → Nat) (cI cZ : ClassId) (h : Nat) (a : Nat → Nat) (qph : AR) (qgr : AR) (qne : AR) (qap : AR) (qle : AR) (qfu : AR) (qpc : Int32) (qgd : Int32) (qri : Int32) (qnw : Int32) (qtk : Int32) (qsv : Int32) (qwa : AR) (qgi : AR) (qlo : AR) (qtu : AR) (n : Nat) (i1 i2 i3 i4 : Int32) (hpc : qpc = nI n) (hn : n ≤ 8) (hok : (X0_appetite_T qne qpc n i1 i2) = 0) : Lk l yL_act wsL_act rmL_act dC dI cI cZ [.ref h, .int 6, .int i1, .int i2, .int i3, .int i4] (xW cI cZ h a qph qgr qne qap qle qfu qpc qgd qri qnw qtk qsv qwa qgi qlo qtu) ((X0_appetite qne qap qpc n i1 i2).1) (fun w2 => w2 = (xW cI cZ h a qph qgr qne ((X0_appetite qne qap qpc n i1 i2).2) qle qfu qpc qgd qri qnw qtk qsv qwa qgi qlo qtu)) 0 0 := by
  refine lk_enterH (cc := cL_act) (maxL := 7) (by decide) rfl (Nat.le_of_ble_eq_true rfl) ?_
  intro p e s m args below meth c A ls Q hC htab hK hNs hZ hP hD hS hA hl hret
  obtain ⟨hx, hb, hml, hown, hts⟩ := id hC
  have hl : lv_has ls 7 [(0, .ref h), (1, .int 6), (2, .int i1), (3, .int i2), (4, .int i3), (5, .int i4)] := hl
  refine lv_iload_n hx hb dL_act_0 rfl (lv_at hl 1 rfl) ?_
  refine lv_if_ne (tgt := 13) hx hb dL_act_1 (by decide) (fun _ => ?_) (fun c => absurd c (by decide))
  refine lv_iload_n hx hb dL_act_13 rfl (lv_at hl 1 rfl) ?_
  refine lv_iconst (v := 1) hx hb dL_act_14 (by decide) ?_
  refine lv_icmp_ne (tgt := 27) hx hb dL_act_15 (by decide) (fun _ => ?_) (fun c => absurd c (by decide))
  refine lv_iload_n hx hb dL_act_27 rfl (lv_at hl 1 rfl) ?_
  refine lv_iconst (v := 2) hx hb dL_act_28 (by decide) ?_
  refine lv_icmp_ne (tgt := 40) hx hb dL_act_29 (by decide) (fun _ => ?_) (fun c => absurd c (by decide))
  refine lv_iload_n hx hb dL_act_40 rfl (lv_at hl 1 rfl) ?_
  refine lv_iconst (v := 3) hx hb dL_act_41 (by decide) ?_
  refine lv_icmp_ne (tgt := 53) hx hb dL_act_42 (by decide) (fun _ => ?_) (fun c => absurd c (by decide))
  refine lv_iload_n hx hb dL_act_53 rfl (lv_at hl 1 rfl) ?_
  refine lv_iconst (v := 4) hx hb dL_act_54 (by decide) ?_
  refine lv_icmp_ne (tgt := 71) hx hb dL_act_55 (by decide) (fun _ => ?_) (fun c => absurd c (by decide))
  refine lv_iload_n hx hb dL_act_71 rfl (lv_at hl 1 rfl) ?_
  refine lv_iconst (v := 5) hx hb dL_act_72 (by decide) ?_
  refine lv_icmp_ne (tgt := 84) hx hb dL_act_73 (by decide) (fun _ => ?_) (fun c => absurd c (by decide))
  refine lv_iload_n hx hb dL_act_84 rfl (lv_at hl 1 rfl) ?_
  refine lv_bipush (v := 6) hx hb dL_act_85 (by decide) ?_
  refine lv_icmp_ne (tgt := 99) hx hb dL_act_87 (by decide) (fun c => absurd (by decide) c) (fun _ => ?_)
  refine lv_aload_n hx hb dL_act_90 rfl (lv_at hl 0 rfl) ?_
  refine lv_iload_n hx hb dL_act_91 rfl (lv_at hl 2 rfl) ?_
  refine lv_iload_n hx hb dL_act_92 rfl (lv_at hl 3 rfl) ?_
  refine k_calli (rest := []) (q0 := 0) hC (c_X0_appetite l dC dI cI cZ h a qph qgr qne qap qle qfu qpc qgd qri qnw qtk qsv qwa qgi qlo qtu n i1 i2 hpc hn hok) (cwV 2 hts gL_act_X0_appetite rfl rfl rfl hd_X0_appetite ⟨Nat.le_of_ble_eq_true rfl, Nat.le_of_ble_eq_true rfl⟩) hK hP hD hS hA rfl rfl rfl hl.1 (Nat.le_of_ble_eq_true rfl) dL_act_93 rfl ⟨Nat.zero_le _, Nat.zero_le _⟩ (fun H locs hP hD hS => ?_)
  refine lv_goto (tgt := 217) hx hb dL_act_96 (by decide) ?_
  exact hret H locs _ 217 ls _ rfl hS hP hD rfl dL_act_217
set_option maxHeartbeats 4000000 in
set_option maxRecDepth 100000 in
theorem a_appetite_1 (l : Launch) (hl0 : l.stackTraces = false) (dC : Nat → ClassId) (dI : Nat → Nat → Nat) (cI cZ : ClassId) (h : Nat) (a : Nat → Nat) (qph : AR) (qgr : AR) (qne : AR) (qap : AR) (qle : AR) (qfu : AR) (qpc : Int32) (qgd : Int32) (qri : Int32) (qnw : Int32) (qtk : Int32) (qsv : Int32) (qwa : AR) (qgi : AR) (qlo : AR) (qtu : AR) (n : Nat) (i1 i2 i3 i4 : Int32) (hpc : qpc = nI n) (hn : n ≤ 8) (hT : (X0_appetite_T qne qpc n i1 i2) = 1) : Lk l yL_act wsL_act rmxL_act dC dI cI cZ [.ref h, .int 6, .int i1, .int i2, .int i3, .int i4] (xW cI cZ h a qph qgr qne qap qle qfu qpc qgd qri qnw qtk qsv qwa qgi qlo qtu) (-70011) (fun w2 => w2 = (xW cI cZ h a qph qgr qne qap qle qfu qpc qgd qri qnw qtk qsv qwa qgi qlo qtu)) 1 6 := by
  refine lk_enterH (cc := cL_act) (maxL := 7) (by decide) rfl (Nat.le_of_ble_eq_true rfl) ?_
  intro p e s m args below meth c A ls Q hC htab hK hNs hZ hP hD hS hA hl hret
  obtain ⟨hx, hb, hml, hown, hts⟩ := id hC
  have hl : lv_has ls 7 [(0, .ref h), (1, .int 6), (2, .int i1), (3, .int i2), (4, .int i3), (5, .int i4)] := hl
  refine lv_iload_n hx hb dL_act_0 rfl (lv_at hl 1 rfl) ?_
  refine lv_if_ne (tgt := 13) hx hb dL_act_1 (by decide) (fun _ => ?_) (fun c => absurd c (by decide))
  refine lv_iload_n hx hb dL_act_13 rfl (lv_at hl 1 rfl) ?_
  refine lv_iconst (v := 1) hx hb dL_act_14 (by decide) ?_
  refine lv_icmp_ne (tgt := 27) hx hb dL_act_15 (by decide) (fun _ => ?_) (fun c => absurd c (by decide))
  refine lv_iload_n hx hb dL_act_27 rfl (lv_at hl 1 rfl) ?_
  refine lv_iconst (v := 2) hx hb dL_act_28 (by decide) ?_
  refine lv_icmp_ne (tgt := 40) hx hb dL_act_29 (by decide) (fun _ => ?_) (fun c => absurd c (by decide))
  refine lv_iload_n hx hb dL_act_40 rfl (lv_at hl 1 rfl) ?_
  refine lv_iconst (v := 3) hx hb dL_act_41 (by decide) ?_
  refine lv_icmp_ne (tgt := 53) hx hb dL_act_42 (by decide) (fun _ => ?_) (fun c => absurd c (by decide))
  refine lv_iload_n hx hb dL_act_53 rfl (lv_at hl 1 rfl) ?_
  refine lv_iconst (v := 4) hx hb dL_act_54 (by decide) ?_
  refine lv_icmp_ne (tgt := 71) hx hb dL_act_55 (by decide) (fun _ => ?_) (fun c => absurd c (by decide))
  refine lv_iload_n hx hb dL_act_71 rfl (lv_at hl 1 rfl) ?_
  refine lv_iconst (v := 5) hx hb dL_act_72 (by decide) ?_
  refine lv_icmp_ne (tgt := 84) hx hb dL_act_73 (by decide) (fun _ => ?_) (fun c => absurd c (by decide))
  refine lv_iload_n hx hb dL_act_84 rfl (lv_at hl 1 rfl) ?_
  refine lv_bipush (v := 6) hx hb dL_act_85 (by decide) ?_
  refine lv_icmp_ne (tgt := 99) hx hb dL_act_87 (by decide) (fun c => absurd (by decide) c) (fun _ => ?_)
  refine lv_aload_n hx hb dL_act_90 rfl (lv_at hl 0 rfl) ?_
  refine lv_iload_n hx hb dL_act_91 rfl (lv_at hl 2 rfl) ?_
  refine lv_iload_n hx hb dL_act_92 rfl (lv_at hl 3 rfl) ?_
  refine kx_callV (rest := []) (q0 := 0) hC (cx_X0_appetite l hl0 dC dI cI cZ h a qph qgr qne qap qle qfu qpc qgd qri qnw qtk qsv qwa qgi qlo qtu n i1 i2 hpc hn (by rw [hT]; decide)) (cwV 2 hts gL_act_X0_appetite rfl rfl rfl hd_X0_appetite ⟨Nat.le_of_ble_eq_true rfl, Nat.le_of_ble_eq_true rfl⟩) hK hNs hZ hP hD hS hA rfl rfl rfl hl.1 (Nat.le_of_ble_eq_true rfl) dL_act_93 rfl ⟨Nat.le_of_ble_eq_true rfl, Nat.le_of_ble_eq_true rfl⟩ (fun E ce q H locs hex hP hD hS hcell hv hcl => ?_)
  rcases hex with ⟨hT2, rfl⟩ | ⟨hT2, rfl⟩ | ⟨hT2, rfl⟩
  · refine vx_catch (name := nIO) hown [] ⟨0, 217, 218, 60⟩ [⟨0, 217, 223, 63⟩, ⟨0, 217, 228, 66⟩] (by rw [htab]; rfl) (fun z hz => nomatch hz) (by decide) (by decide) (hts (.classLink RL 60 nIO) (by decide +kernel)) (va_Nw.use rfl hNs.2.1.2.2) hcell hv hcl ?_
    refine lv_astore (lv' := [(6, .ref q), (0, .ref h), (1, .int 6), (2, .int i1), (3, .int i2), (4, .int i3), (5, .int i4)]) hx hb dL_act_218 hl (by decide) rfl (fun ls hl => ?_)
    refine lv_ldc (v := -70011) hx hb hown (hts (.constant RL 62 (-70011)) (by decide +kernel)) dL_act_220 ?_
    exact hret H locs _ 222 ls _ rfl hS hP hD rfl dL_act_222
  · exact absurd (hT.symm.trans hT2) (by decide)
  · exact absurd (hT.symm.trans hT2) (by decide)
set_option maxHeartbeats 4000000 in
set_option maxRecDepth 100000 in
theorem a_appetite_2 (l : Launch) (hl0 : l.stackTraces = false) (dC : Nat → ClassId) (dI : Nat → Nat → Nat) (cI cZ : ClassId) (h : Nat) (a : Nat → Nat) (qph : AR) (qgr : AR) (qne : AR) (qap : AR) (qle : AR) (qfu : AR) (qpc : Int32) (qgd : Int32) (qri : Int32) (qnw : Int32) (qtk : Int32) (qsv : Int32) (qwa : AR) (qgi : AR) (qlo : AR) (qtu : AR) (n : Nat) (i1 i2 i3 i4 : Int32) (hpc : qpc = nI n) (hn : n ≤ 8) (hT : (X0_appetite_T qne qpc n i1 i2) = 2) : Lk l yL_act wsL_act rmxL_act dC dI cI cZ [.ref h, .int 6, .int i1, .int i2, .int i3, .int i4] (xW cI cZ h a qph qgr qne qap qle qfu qpc qgd qri qnw qtk qsv qwa qgi qlo qtu) (-70012) (fun w2 => w2 = (xW cI cZ h a qph qgr qne qap qle qfu qpc qgd qri qnw qtk qsv qwa qgi qlo qtu)) 1 6 := by
  refine lk_enterH (cc := cL_act) (maxL := 7) (by decide) rfl (Nat.le_of_ble_eq_true rfl) ?_
  intro p e s m args below meth c A ls Q hC htab hK hNs hZ hP hD hS hA hl hret
  obtain ⟨hx, hb, hml, hown, hts⟩ := id hC
  have hl : lv_has ls 7 [(0, .ref h), (1, .int 6), (2, .int i1), (3, .int i2), (4, .int i3), (5, .int i4)] := hl
  refine lv_iload_n hx hb dL_act_0 rfl (lv_at hl 1 rfl) ?_
  refine lv_if_ne (tgt := 13) hx hb dL_act_1 (by decide) (fun _ => ?_) (fun c => absurd c (by decide))
  refine lv_iload_n hx hb dL_act_13 rfl (lv_at hl 1 rfl) ?_
  refine lv_iconst (v := 1) hx hb dL_act_14 (by decide) ?_
  refine lv_icmp_ne (tgt := 27) hx hb dL_act_15 (by decide) (fun _ => ?_) (fun c => absurd c (by decide))
  refine lv_iload_n hx hb dL_act_27 rfl (lv_at hl 1 rfl) ?_
  refine lv_iconst (v := 2) hx hb dL_act_28 (by decide) ?_
  refine lv_icmp_ne (tgt := 40) hx hb dL_act_29 (by decide) (fun _ => ?_) (fun c => absurd c (by decide))
  refine lv_iload_n hx hb dL_act_40 rfl (lv_at hl 1 rfl) ?_
  refine lv_iconst (v := 3) hx hb dL_act_41 (by decide) ?_
  refine lv_icmp_ne (tgt := 53) hx hb dL_act_42 (by decide) (fun _ => ?_) (fun c => absurd c (by decide))
  refine lv_iload_n hx hb dL_act_53 rfl (lv_at hl 1 rfl) ?_
  refine lv_iconst (v := 4) hx hb dL_act_54 (by decide) ?_
  refine lv_icmp_ne (tgt := 71) hx hb dL_act_55 (by decide) (fun _ => ?_) (fun c => absurd c (by decide))
  refine lv_iload_n hx hb dL_act_71 rfl (lv_at hl 1 rfl) ?_
  refine lv_iconst (v := 5) hx hb dL_act_72 (by decide) ?_
  refine lv_icmp_ne (tgt := 84) hx hb dL_act_73 (by decide) (fun _ => ?_) (fun c => absurd c (by decide))
  refine lv_iload_n hx hb dL_act_84 rfl (lv_at hl 1 rfl) ?_
  refine lv_bipush (v := 6) hx hb dL_act_85 (by decide) ?_
  refine lv_icmp_ne (tgt := 99) hx hb dL_act_87 (by decide) (fun c => absurd (by decide) c) (fun _ => ?_)
  refine lv_aload_n hx hb dL_act_90 rfl (lv_at hl 0 rfl) ?_
  refine lv_iload_n hx hb dL_act_91 rfl (lv_at hl 2 rfl) ?_
  refine lv_iload_n hx hb dL_act_92 rfl (lv_at hl 3 rfl) ?_
  refine kx_callV (rest := []) (q0 := 0) hC (cx_X0_appetite l hl0 dC dI cI cZ h a qph qgr qne qap qle qfu qpc qgd qri qnw qtk qsv qwa qgi qlo qtu n i1 i2 hpc hn (by rw [hT]; decide)) (cwV 2 hts gL_act_X0_appetite rfl rfl rfl hd_X0_appetite ⟨Nat.le_of_ble_eq_true rfl, Nat.le_of_ble_eq_true rfl⟩) hK hNs hZ hP hD hS hA rfl rfl rfl hl.1 (Nat.le_of_ble_eq_true rfl) dL_act_93 rfl ⟨Nat.le_of_ble_eq_true rfl, Nat.le_of_ble_eq_true rfl⟩ (fun E ce q H locs hex hP hD hS hcell hv hcl => ?_)
  rcases hex with ⟨hT2, rfl⟩ | ⟨hT2, rfl⟩ | ⟨hT2, rfl⟩
  · exact absurd (hT.symm.trans hT2) (by decide)
  · refine vx_catch (name := nIA) hown [⟨0, 217, 218, 60⟩] ⟨0, 217, 223, 63⟩ [⟨0, 217, 228, 66⟩] (by rw [htab]; rfl) (fun z hz => by rcases List.mem_singleton.mp hz with rfl; exact Or.inr ⟨by decide, nIO, hts (.classLink RL 60 nIO) (by decide +kernel), hNs.2.2.1.1⟩) (by decide) (by decide) (hts (.classLink RL 63 nIA) (by decide +kernel)) (va_Nw.use rfl hNs.2.1.1) hcell hv hcl ?_
    refine lv_astore (lv' := [(6, .ref q), (0, .ref h), (1, .int 6), (2, .int i1), (3, .int i2), (4, .int i3), (5, .int i4)]) hx hb dL_act_223 hl (by decide) rfl (fun ls hl => ?_)
    refine lv_ldc (v := -70012) hx hb hown (hts (.constant RL 65 (-70012)) (by decide +kernel)) dL_act_225 ?_
    exact hret H locs _ 227 ls _ rfl hS hP hD rfl dL_act_227
  · exact absurd (hT.symm.trans hT2) (by decide)
set_option maxHeartbeats 4000000 in
set_option maxRecDepth 100000 in
theorem a_appetite_3 (l : Launch) (hl0 : l.stackTraces = false) (dC : Nat → ClassId) (dI : Nat → Nat → Nat) (cI cZ : ClassId) (h : Nat) (a : Nat → Nat) (qph : AR) (qgr : AR) (qne : AR) (qap : AR) (qle : AR) (qfu : AR) (qpc : Int32) (qgd : Int32) (qri : Int32) (qnw : Int32) (qtk : Int32) (qsv : Int32) (qwa : AR) (qgi : AR) (qlo : AR) (qtu : AR) (n : Nat) (i1 i2 i3 i4 : Int32) (hpc : qpc = nI n) (hn : n ≤ 8) (hT : (X0_appetite_T qne qpc n i1 i2) = 3) : Lk l yL_act wsL_act rmxL_act dC dI cI cZ [.ref h, .int 6, .int i1, .int i2, .int i3, .int i4] (xW cI cZ h a qph qgr qne qap qle qfu qpc qgd qri qnw qtk qsv qwa qgi qlo qtu) (-70013) (fun w2 => w2 = (xW cI cZ h a qph qgr qne qap qle qfu qpc qgd qri qnw qtk qsv qwa qgi qlo qtu)) 1 6 := by
  refine lk_enterH (cc := cL_act) (maxL := 7) (by decide) rfl (Nat.le_of_ble_eq_true rfl) ?_
  intro p e s m args below meth c A ls Q hC htab hK hNs hZ hP hD hS hA hl hret
  obtain ⟨hx, hb, hml, hown, hts⟩ := id hC
  have hl : lv_has ls 7 [(0, .ref h), (1, .int 6), (2, .int i1), (3, .int i2), (4, .int i3), (5, .int i4)] := hl
  refine lv_iload_n hx hb dL_act_0 rfl (lv_at hl 1 rfl) ?_
  refine lv_if_ne (tgt := 13) hx hb dL_act_1 (by decide) (fun _ => ?_) (fun c => absurd c (by decide))
  refine lv_iload_n hx hb dL_act_13 rfl (lv_at hl 1 rfl) ?_
  refine lv_iconst (v := 1) hx hb dL_act_14 (by decide) ?_
  refine lv_icmp_ne (tgt := 27) hx hb dL_act_15 (by decide) (fun _ => ?_) (fun c => absurd c (by decide))
  refine lv_iload_n hx hb dL_act_27 rfl (lv_at hl 1 rfl) ?_
  refine lv_iconst (v := 2) hx hb dL_act_28 (by decide) ?_
  refine lv_icmp_ne (tgt := 40) hx hb dL_act_29 (by decide) (fun _ => ?_) (fun c => absurd c (by decide))
  refine lv_iload_n hx hb dL_act_40 rfl (lv_at hl 1 rfl) ?_
  refine lv_iconst (v := 3) hx hb dL_act_41 (by decide) ?_
  refine lv_icmp_ne (tgt := 53) hx hb dL_act_42 (by decide) (fun _ => ?_) (fun c => absurd c (by decide))
  refine lv_iload_n hx hb dL_act_53 rfl (lv_at hl 1 rfl) ?_
  refine lv_iconst (v := 4) hx hb dL_act_54 (by decide) ?_
  refine lv_icmp_ne (tgt := 71) hx hb dL_act_55 (by decide) (fun _ => ?_) (fun c => absurd c (by decide))
  refine lv_iload_n hx hb dL_act_71 rfl (lv_at hl 1 rfl) ?_
  refine lv_iconst (v := 5) hx hb dL_act_72 (by decide) ?_
  refine lv_icmp_ne (tgt := 84) hx hb dL_act_73 (by decide) (fun _ => ?_) (fun c => absurd c (by decide))
  refine lv_iload_n hx hb dL_act_84 rfl (lv_at hl 1 rfl) ?_
  refine lv_bipush (v := 6) hx hb dL_act_85 (by decide) ?_
  refine lv_icmp_ne (tgt := 99) hx hb dL_act_87 (by decide) (fun c => absurd (by decide) c) (fun _ => ?_)
  refine lv_aload_n hx hb dL_act_90 rfl (lv_at hl 0 rfl) ?_
  refine lv_iload_n hx hb dL_act_91 rfl (lv_at hl 2 rfl) ?_
  refine lv_iload_n hx hb dL_act_92 rfl (lv_at hl 3 rfl) ?_
  refine kx_callV (rest := []) (q0 := 0) hC (cx_X0_appetite l hl0 dC dI cI cZ h a qph qgr qne qap qle qfu qpc qgd qri qnw qtk qsv qwa qgi qlo qtu n i1 i2 hpc hn (by rw [hT]; decide)) (cwV 2 hts gL_act_X0_appetite rfl rfl rfl hd_X0_appetite ⟨Nat.le_of_ble_eq_true rfl, Nat.le_of_ble_eq_true rfl⟩) hK hNs hZ hP hD hS hA rfl rfl rfl hl.1 (Nat.le_of_ble_eq_true rfl) dL_act_93 rfl ⟨Nat.le_of_ble_eq_true rfl, Nat.le_of_ble_eq_true rfl⟩ (fun E ce q H locs hex hP hD hS hcell hv hcl => ?_)
  rcases hex with ⟨hT2, rfl⟩ | ⟨hT2, rfl⟩ | ⟨hT2, rfl⟩
  · exact absurd (hT.symm.trans hT2) (by decide)
  · exact absurd (hT.symm.trans hT2) (by decide)
  · refine vx_catch (name := nIS) hown [⟨0, 217, 218, 60⟩, ⟨0, 217, 223, 63⟩] ⟨0, 217, 228, 66⟩ [] (by rw [htab]; rfl) (fun z hz => by
        rcases List.mem_cons.mp hz with rfl | hz
        · exact Or.inr ⟨by decide, nIO, hts (.classLink RL 60 nIO) (by decide +kernel), hNs.2.2.1.2.1⟩
        · rcases List.mem_singleton.mp hz with rfl
          exact Or.inr ⟨by decide, nIA, hts (.classLink RL 63 nIA) (by decide +kernel), hNs.2.2.1.2.2⟩) (by decide) (by decide) (hts (.classLink RL 66 nIS) (by decide +kernel)) (va_Nw.use rfl hNs.2.1.2.1) hcell hv hcl ?_
    refine lv_astore (lv' := [(6, .ref q), (0, .ref h), (1, .int 6), (2, .int i1), (3, .int i2), (4, .int i3), (5, .int i4)]) hx hb dL_act_228 hl (by decide) rfl (fun ls hl => ?_)
    refine lv_ldc (v := -70013) hx hb hown (hts (.constant RL 68 (-70013)) (by decide +kernel)) dL_act_230 ?_
    exact hret H locs _ 232 ls _ rfl hS hP hD rfl dL_act_232
set_option maxHeartbeats 4000000 in
set_option maxRecDepth 100000 in
theorem a_stay (l : Launch) (dC : Nat → ClassId) (dI : Nat → Nat → Nat) (cI cZ : ClassId) (h : Nat) (a : Nat → Nat) (qph : AR) (qgr : AR) (qne : AR) (qap : AR) (qle : AR) (qfu : AR) (qpc : Int32) (qgd : Int32) (qri : Int32) (qnw : Int32) (qtk : Int32) (qsv : Int32) (qwa : AR) (qgi : AR) (qlo : AR) (qtu : AR) (n : Nat) (i1 i2 i3 i4 : Int32) (hpc : qpc = nI n) (hn : n ≤ 8) (hok : (X0_stay_T qne qpc n i1 i2) = 0) : Lk l yL_act wsL_act rmL_act dC dI cI cZ [.ref h, .int 7, .int i1, .int i2, .int i3, .int i4] (xW cI cZ h a qph qgr qne qap qle qfu qpc qgd qri qnw qtk qsv qwa qgi qlo qtu) ((X0_stay qne qle qpc qnw n i1 i2).1) (fun w2 => w2 = (xW cI cZ h a qph qgr qne qap ((X0_stay qne qle qpc qnw n i1 i2).2) qfu qpc qgd qri qnw qtk qsv qwa qgi qlo qtu)) 0 0 := by
  refine lk_enterH (cc := cL_act) (maxL := 7) (by decide) rfl (Nat.le_of_ble_eq_true rfl) ?_
  intro p e s m args below meth c A ls Q hC htab hK hNs hZ hP hD hS hA hl hret
  obtain ⟨hx, hb, hml, hown, hts⟩ := id hC
  have hl : lv_has ls 7 [(0, .ref h), (1, .int 7), (2, .int i1), (3, .int i2), (4, .int i3), (5, .int i4)] := hl
  refine lv_iload_n hx hb dL_act_0 rfl (lv_at hl 1 rfl) ?_
  refine lv_if_ne (tgt := 13) hx hb dL_act_1 (by decide) (fun _ => ?_) (fun c => absurd c (by decide))
  refine lv_iload_n hx hb dL_act_13 rfl (lv_at hl 1 rfl) ?_
  refine lv_iconst (v := 1) hx hb dL_act_14 (by decide) ?_
  refine lv_icmp_ne (tgt := 27) hx hb dL_act_15 (by decide) (fun _ => ?_) (fun c => absurd c (by decide))
  refine lv_iload_n hx hb dL_act_27 rfl (lv_at hl 1 rfl) ?_
  refine lv_iconst (v := 2) hx hb dL_act_28 (by decide) ?_
  refine lv_icmp_ne (tgt := 40) hx hb dL_act_29 (by decide) (fun _ => ?_) (fun c => absurd c (by decide))
  refine lv_iload_n hx hb dL_act_40 rfl (lv_at hl 1 rfl) ?_
  refine lv_iconst (v := 3) hx hb dL_act_41 (by decide) ?_
  refine lv_icmp_ne (tgt := 53) hx hb dL_act_42 (by decide) (fun _ => ?_) (fun c => absurd c (by decide))
  refine lv_iload_n hx hb dL_act_53 rfl (lv_at hl 1 rfl) ?_
  refine lv_iconst (v := 4) hx hb dL_act_54 (by decide) ?_
  refine lv_icmp_ne (tgt := 71) hx hb dL_act_55 (by decide) (fun _ => ?_) (fun c => absurd c (by decide))
  refine lv_iload_n hx hb dL_act_71 rfl (lv_at hl 1 rfl) ?_
  refine lv_iconst (v := 5) hx hb dL_act_72 (by decide) ?_
  refine lv_icmp_ne (tgt := 84) hx hb dL_act_73 (by decide) (fun _ => ?_) (fun c => absurd c (by decide))
  refine lv_iload_n hx hb dL_act_84 rfl (lv_at hl 1 rfl) ?_
  refine lv_bipush (v := 6) hx hb dL_act_85 (by decide) ?_
  refine lv_icmp_ne (tgt := 99) hx hb dL_act_87 (by decide) (fun _ => ?_) (fun c => absurd c (by decide))
  refine lv_iload_n hx hb dL_act_99 rfl (lv_at hl 1 rfl) ?_
  refine lv_bipush (v := 7) hx hb dL_act_100 (by decide) ?_
  refine lv_icmp_ne (tgt := 114) hx hb dL_act_102 (by decide) (fun c => absurd (by decide) c) (fun _ => ?_)
  refine lv_aload_n hx hb dL_act_105 rfl (lv_at hl 0 rfl) ?_
  refine lv_iload_n hx hb dL_act_106 rfl (lv_at hl 2 rfl) ?_
  refine lv_iload_n hx hb dL_act_107 rfl (lv_at hl 3 rfl) ?_
  refine k_calli (rest := []) (q0 := 0) hC (c_X0_stay l dC dI cI cZ h a qph qgr qne qap qle qfu qpc qgd qri qnw qtk qsv qwa qgi qlo qtu n i1 i2 hpc hn hok) (cwV 2 hts gL_act_X0_stay rfl rfl rfl hd_X0_stay ⟨Nat.le_of_ble_eq_true rfl, Nat.le_of_ble_eq_true rfl⟩) hK hP hD hS hA rfl rfl rfl hl.1 (Nat.le_of_ble_eq_true rfl) dL_act_108 rfl ⟨Nat.zero_le _, Nat.zero_le _⟩ (fun H locs hP hD hS => ?_)
  refine lv_goto (tgt := 217) hx hb dL_act_111 (by decide) ?_
  exact hret H locs _ 217 ls _ rfl hS hP hD rfl dL_act_217
set_option maxHeartbeats 4000000 in
set_option maxRecDepth 100000 in
theorem a_stay_1 (l : Launch) (hl0 : l.stackTraces = false) (dC : Nat → ClassId) (dI : Nat → Nat → Nat) (cI cZ : ClassId) (h : Nat) (a : Nat → Nat) (qph : AR) (qgr : AR) (qne : AR) (qap : AR) (qle : AR) (qfu : AR) (qpc : Int32) (qgd : Int32) (qri : Int32) (qnw : Int32) (qtk : Int32) (qsv : Int32) (qwa : AR) (qgi : AR) (qlo : AR) (qtu : AR) (n : Nat) (i1 i2 i3 i4 : Int32) (hpc : qpc = nI n) (hn : n ≤ 8) (hT : (X0_stay_T qne qpc n i1 i2) = 1) : Lk l yL_act wsL_act rmxL_act dC dI cI cZ [.ref h, .int 7, .int i1, .int i2, .int i3, .int i4] (xW cI cZ h a qph qgr qne qap qle qfu qpc qgd qri qnw qtk qsv qwa qgi qlo qtu) (-70011) (fun w2 => w2 = (xW cI cZ h a qph qgr qne qap qle qfu qpc qgd qri qnw qtk qsv qwa qgi qlo qtu)) 1 6 := by
  refine lk_enterH (cc := cL_act) (maxL := 7) (by decide) rfl (Nat.le_of_ble_eq_true rfl) ?_
  intro p e s m args below meth c A ls Q hC htab hK hNs hZ hP hD hS hA hl hret
  obtain ⟨hx, hb, hml, hown, hts⟩ := id hC
  have hl : lv_has ls 7 [(0, .ref h), (1, .int 7), (2, .int i1), (3, .int i2), (4, .int i3), (5, .int i4)] := hl
  refine lv_iload_n hx hb dL_act_0 rfl (lv_at hl 1 rfl) ?_
  refine lv_if_ne (tgt := 13) hx hb dL_act_1 (by decide) (fun _ => ?_) (fun c => absurd c (by decide))
  refine lv_iload_n hx hb dL_act_13 rfl (lv_at hl 1 rfl) ?_
  refine lv_iconst (v := 1) hx hb dL_act_14 (by decide) ?_
  refine lv_icmp_ne (tgt := 27) hx hb dL_act_15 (by decide) (fun _ => ?_) (fun c => absurd c (by decide))
  refine lv_iload_n hx hb dL_act_27 rfl (lv_at hl 1 rfl) ?_
  refine lv_iconst (v := 2) hx hb dL_act_28 (by decide) ?_
  refine lv_icmp_ne (tgt := 40) hx hb dL_act_29 (by decide) (fun _ => ?_) (fun c => absurd c (by decide))
  refine lv_iload_n hx hb dL_act_40 rfl (lv_at hl 1 rfl) ?_
  refine lv_iconst (v := 3) hx hb dL_act_41 (by decide) ?_
  refine lv_icmp_ne (tgt := 53) hx hb dL_act_42 (by decide) (fun _ => ?_) (fun c => absurd c (by decide))
  refine lv_iload_n hx hb dL_act_53 rfl (lv_at hl 1 rfl) ?_
  refine lv_iconst (v := 4) hx hb dL_act_54 (by decide) ?_
  refine lv_icmp_ne (tgt := 71) hx hb dL_act_55 (by decide) (fun _ => ?_) (fun c => absurd c (by decide))
  refine lv_iload_n hx hb dL_act_71 rfl (lv_at hl 1 rfl) ?_
  refine lv_iconst (v := 5) hx hb dL_act_72 (by decide) ?_
  refine lv_icmp_ne (tgt := 84) hx hb dL_act_73 (by decide) (fun _ => ?_) (fun c => absurd c (by decide))
  refine lv_iload_n hx hb dL_act_84 rfl (lv_at hl 1 rfl) ?_
  refine lv_bipush (v := 6) hx hb dL_act_85 (by decide) ?_
  refine lv_icmp_ne (tgt := 99) hx hb dL_act_87 (by decide) (fun _ => ?_) (fun c => absurd c (by decide))
  refine lv_iload_n hx hb dL_act_99 rfl (lv_at hl 1 rfl) ?_
  refine lv_bipush (v := 7) hx hb dL_act_100 (by decide) ?_
  refine lv_icmp_ne (tgt := 114) hx hb dL_act_102 (by decide) (fun c => absurd (by decide) c) (fun _ => ?_)
  refine lv_aload_n hx hb dL_act_105 rfl (lv_at hl 0 rfl) ?_
  refine lv_iload_n hx hb dL_act_106 rfl (lv_at hl 2 rfl) ?_
  refine lv_iload_n hx hb dL_act_107 rfl (lv_at hl 3 rfl) ?_
  refine kx_callV (rest := []) (q0 := 0) hC (cx_X0_stay l hl0 dC dI cI cZ h a qph qgr qne qap qle qfu qpc qgd qri qnw qtk qsv qwa qgi qlo qtu n i1 i2 hpc hn (by rw [hT]; decide)) (cwV 2 hts gL_act_X0_stay rfl rfl rfl hd_X0_stay ⟨Nat.le_of_ble_eq_true rfl, Nat.le_of_ble_eq_true rfl⟩) hK hNs hZ hP hD hS hA rfl rfl rfl hl.1 (Nat.le_of_ble_eq_true rfl) dL_act_108 rfl ⟨Nat.le_of_ble_eq_true rfl, Nat.le_of_ble_eq_true rfl⟩ (fun E ce q H locs hex hP hD hS hcell hv hcl => ?_)
  rcases hex with ⟨hT2, rfl⟩ | ⟨hT2, rfl⟩ | ⟨hT2, rfl⟩
  · refine vx_catch (name := nIO) hown [] ⟨0, 217, 218, 60⟩ [⟨0, 217, 223, 63⟩, ⟨0, 217, 228, 66⟩] (by rw [htab]; rfl) (fun z hz => nomatch hz) (by decide) (by decide) (hts (.classLink RL 60 nIO) (by decide +kernel)) (va_Nw.use rfl hNs.2.1.2.2) hcell hv hcl ?_
    refine lv_astore (lv' := [(6, .ref q), (0, .ref h), (1, .int 7), (2, .int i1), (3, .int i2), (4, .int i3), (5, .int i4)]) hx hb dL_act_218 hl (by decide) rfl (fun ls hl => ?_)
    refine lv_ldc (v := -70011) hx hb hown (hts (.constant RL 62 (-70011)) (by decide +kernel)) dL_act_220 ?_
    exact hret H locs _ 222 ls _ rfl hS hP hD rfl dL_act_222
  · exact absurd (hT.symm.trans hT2) (by decide)
  · exact absurd (hT.symm.trans hT2) (by decide)
set_option maxHeartbeats 4000000 in
set_option maxRecDepth 100000 in
theorem a_stay_2 (l : Launch) (hl0 : l.stackTraces = false) (dC : Nat → ClassId) (dI : Nat → Nat → Nat) (cI cZ : ClassId) (h : Nat) (a : Nat → Nat) (qph : AR) (qgr : AR) (qne : AR) (qap : AR) (qle : AR) (qfu : AR) (qpc : Int32) (qgd : Int32) (qri : Int32) (qnw : Int32) (qtk : Int32) (qsv : Int32) (qwa : AR) (qgi : AR) (qlo : AR) (qtu : AR) (n : Nat) (i1 i2 i3 i4 : Int32) (hpc : qpc = nI n) (hn : n ≤ 8) (hT : (X0_stay_T qne qpc n i1 i2) = 2) : Lk l yL_act wsL_act rmxL_act dC dI cI cZ [.ref h, .int 7, .int i1, .int i2, .int i3, .int i4] (xW cI cZ h a qph qgr qne qap qle qfu qpc qgd qri qnw qtk qsv qwa qgi qlo qtu) (-70012) (fun w2 => w2 = (xW cI cZ h a qph qgr qne qap qle qfu qpc qgd qri qnw qtk qsv qwa qgi qlo qtu)) 1 6 := by
  refine lk_enterH (cc := cL_act) (maxL := 7) (by decide) rfl (Nat.le_of_ble_eq_true rfl) ?_
  intro p e s m args below meth c A ls Q hC htab hK hNs hZ hP hD hS hA hl hret
  obtain ⟨hx, hb, hml, hown, hts⟩ := id hC
  have hl : lv_has ls 7 [(0, .ref h), (1, .int 7), (2, .int i1), (3, .int i2), (4, .int i3), (5, .int i4)] := hl
  refine lv_iload_n hx hb dL_act_0 rfl (lv_at hl 1 rfl) ?_
  refine lv_if_ne (tgt := 13) hx hb dL_act_1 (by decide) (fun _ => ?_) (fun c => absurd c (by decide))
  refine lv_iload_n hx hb dL_act_13 rfl (lv_at hl 1 rfl) ?_
  refine lv_iconst (v := 1) hx hb dL_act_14 (by decide) ?_
  refine lv_icmp_ne (tgt := 27) hx hb dL_act_15 (by decide) (fun _ => ?_) (fun c => absurd c (by decide))
  refine lv_iload_n hx hb dL_act_27 rfl (lv_at hl 1 rfl) ?_
  refine lv_iconst (v := 2) hx hb dL_act_28 (by decide) ?_
  refine lv_icmp_ne (tgt := 40) hx hb dL_act_29 (by decide) (fun _ => ?_) (fun c => absurd c (by decide))
  refine lv_iload_n hx hb dL_act_40 rfl (lv_at hl 1 rfl) ?_
  refine lv_iconst (v := 3) hx hb dL_act_41 (by decide) ?_
  refine lv_icmp_ne (tgt := 53) hx hb dL_act_42 (by decide) (fun _ => ?_) (fun c => absurd c (by decide))
  refine lv_iload_n hx hb dL_act_53 rfl (lv_at hl 1 rfl) ?_
  refine lv_iconst (v := 4) hx hb dL_act_54 (by decide) ?_
  refine lv_icmp_ne (tgt := 71) hx hb dL_act_55 (by decide) (fun _ => ?_) (fun c => absurd c (by decide))
  refine lv_iload_n hx hb dL_act_71 rfl (lv_at hl 1 rfl) ?_
  refine lv_iconst (v := 5) hx hb dL_act_72 (by decide) ?_
  refine lv_icmp_ne (tgt := 84) hx hb dL_act_73 (by decide) (fun _ => ?_) (fun c => absurd c (by decide))
  refine lv_iload_n hx hb dL_act_84 rfl (lv_at hl 1 rfl) ?_
  refine lv_bipush (v := 6) hx hb dL_act_85 (by decide) ?_
  refine lv_icmp_ne (tgt := 99) hx hb dL_act_87 (by decide) (fun _ => ?_) (fun c => absurd c (by decide))
  refine lv_iload_n hx hb dL_act_99 rfl (lv_at hl 1 rfl) ?_
  refine lv_bipush (v := 7) hx hb dL_act_100 (by decide) ?_
  refine lv_icmp_ne (tgt := 114) hx hb dL_act_102 (by decide) (fun c => absurd (by decide) c) (fun _ => ?_)
  refine lv_aload_n hx hb dL_act_105 rfl (lv_at hl 0 rfl) ?_
  refine lv_iload_n hx hb dL_act_106 rfl (lv_at hl 2 rfl) ?_
  refine lv_iload_n hx hb dL_act_107 rfl (lv_at hl 3 rfl) ?_
  refine kx_callV (rest := []) (q0 := 0) hC (cx_X0_stay l hl0 dC dI cI cZ h a qph qgr qne qap qle qfu qpc qgd qri qnw qtk qsv qwa qgi qlo qtu n i1 i2 hpc hn (by rw [hT]; decide)) (cwV 2 hts gL_act_X0_stay rfl rfl rfl hd_X0_stay ⟨Nat.le_of_ble_eq_true rfl, Nat.le_of_ble_eq_true rfl⟩) hK hNs hZ hP hD hS hA rfl rfl rfl hl.1 (Nat.le_of_ble_eq_true rfl) dL_act_108 rfl ⟨Nat.le_of_ble_eq_true rfl, Nat.le_of_ble_eq_true rfl⟩ (fun E ce q H locs hex hP hD hS hcell hv hcl => ?_)
  rcases hex with ⟨hT2, rfl⟩ | ⟨hT2, rfl⟩ | ⟨hT2, rfl⟩
  · exact absurd (hT.symm.trans hT2) (by decide)
  · refine vx_catch (name := nIA) hown [⟨0, 217, 218, 60⟩] ⟨0, 217, 223, 63⟩ [⟨0, 217, 228, 66⟩] (by rw [htab]; rfl) (fun z hz => by rcases List.mem_singleton.mp hz with rfl; exact Or.inr ⟨by decide, nIO, hts (.classLink RL 60 nIO) (by decide +kernel), hNs.2.2.1.1⟩) (by decide) (by decide) (hts (.classLink RL 63 nIA) (by decide +kernel)) (va_Nw.use rfl hNs.2.1.1) hcell hv hcl ?_
    refine lv_astore (lv' := [(6, .ref q), (0, .ref h), (1, .int 7), (2, .int i1), (3, .int i2), (4, .int i3), (5, .int i4)]) hx hb dL_act_223 hl (by decide) rfl (fun ls hl => ?_)
    refine lv_ldc (v := -70012) hx hb hown (hts (.constant RL 65 (-70012)) (by decide +kernel)) dL_act_225 ?_
    exact hret H locs _ 227 ls _ rfl hS hP hD rfl dL_act_227
  · exact absurd (hT.symm.trans hT2) (by decide)
set_option maxHeartbeats 4000000 in
set_option maxRecDepth 100000 in
theorem a_stay_3 (l : Launch) (hl0 : l.stackTraces = false) (dC : Nat → ClassId) (dI : Nat → Nat → Nat) (cI cZ : ClassId) (h : Nat) (a : Nat → Nat) (qph : AR) (qgr : AR) (qne : AR) (qap : AR) (qle : AR) (qfu : AR) (qpc : Int32) (qgd : Int32) (qri : Int32) (qnw : Int32) (qtk : Int32) (qsv : Int32) (qwa : AR) (qgi : AR) (qlo : AR) (qtu : AR) (n : Nat) (i1 i2 i3 i4 : Int32) (hpc : qpc = nI n) (hn : n ≤ 8) (hT : (X0_stay_T qne qpc n i1 i2) = 3) : Lk l yL_act wsL_act rmxL_act dC dI cI cZ [.ref h, .int 7, .int i1, .int i2, .int i3, .int i4] (xW cI cZ h a qph qgr qne qap qle qfu qpc qgd qri qnw qtk qsv qwa qgi qlo qtu) (-70013) (fun w2 => w2 = (xW cI cZ h a qph qgr qne qap qle qfu qpc qgd qri qnw qtk qsv qwa qgi qlo qtu)) 1 6 := by
  refine lk_enterH (cc := cL_act) (maxL := 7) (by decide) rfl (Nat.le_of_ble_eq_true rfl) ?_
  intro p e s m args below meth c A ls Q hC htab hK hNs hZ hP hD hS hA hl hret
  obtain ⟨hx, hb, hml, hown, hts⟩ := id hC
  have hl : lv_has ls 7 [(0, .ref h), (1, .int 7), (2, .int i1), (3, .int i2), (4, .int i3), (5, .int i4)] := hl
  refine lv_iload_n hx hb dL_act_0 rfl (lv_at hl 1 rfl) ?_
  refine lv_if_ne (tgt := 13) hx hb dL_act_1 (by decide) (fun _ => ?_) (fun c => absurd c (by decide))
  refine lv_iload_n hx hb dL_act_13 rfl (lv_at hl 1 rfl) ?_
  refine lv_iconst (v := 1) hx hb dL_act_14 (by decide) ?_
  refine lv_icmp_ne (tgt := 27) hx hb dL_act_15 (by decide) (fun _ => ?_) (fun c => absurd c (by decide))
  refine lv_iload_n hx hb dL_act_27 rfl (lv_at hl 1 rfl) ?_
  refine lv_iconst (v := 2) hx hb dL_act_28 (by decide) ?_
  refine lv_icmp_ne (tgt := 40) hx hb dL_act_29 (by decide) (fun _ => ?_) (fun c => absurd c (by decide))
  refine lv_iload_n hx hb dL_act_40 rfl (lv_at hl 1 rfl) ?_
  refine lv_iconst (v := 3) hx hb dL_act_41 (by decide) ?_
  refine lv_icmp_ne (tgt := 53) hx hb dL_act_42 (by decide) (fun _ => ?_) (fun c => absurd c (by decide))
  refine lv_iload_n hx hb dL_act_53 rfl (lv_at hl 1 rfl) ?_
  refine lv_iconst (v := 4) hx hb dL_act_54 (by decide) ?_
  refine lv_icmp_ne (tgt := 71) hx hb dL_act_55 (by decide) (fun _ => ?_) (fun c => absurd c (by decide))
  refine lv_iload_n hx hb dL_act_71 rfl (lv_at hl 1 rfl) ?_
  refine lv_iconst (v := 5) hx hb dL_act_72 (by decide) ?_
  refine lv_icmp_ne (tgt := 84) hx hb dL_act_73 (by decide) (fun _ => ?_) (fun c => absurd c (by decide))
  refine lv_iload_n hx hb dL_act_84 rfl (lv_at hl 1 rfl) ?_
  refine lv_bipush (v := 6) hx hb dL_act_85 (by decide) ?_
  refine lv_icmp_ne (tgt := 99) hx hb dL_act_87 (by decide) (fun _ => ?_) (fun c => absurd c (by decide))
  refine lv_iload_n hx hb dL_act_99 rfl (lv_at hl 1 rfl) ?_
  refine lv_bipush (v := 7) hx hb dL_act_100 (by decide) ?_
  refine lv_icmp_ne (tgt := 114) hx hb dL_act_102 (by decide) (fun c => absurd (by decide) c) (fun _ => ?_)
  refine lv_aload_n hx hb dL_act_105 rfl (lv_at hl 0 rfl) ?_
  refine lv_iload_n hx hb dL_act_106 rfl (lv_at hl 2 rfl) ?_
  refine lv_iload_n hx hb dL_act_107 rfl (lv_at hl 3 rfl) ?_
  refine kx_callV (rest := []) (q0 := 0) hC (cx_X0_stay l hl0 dC dI cI cZ h a qph qgr qne qap qle qfu qpc qgd qri qnw qtk qsv qwa qgi qlo qtu n i1 i2 hpc hn (by rw [hT]; decide)) (cwV 2 hts gL_act_X0_stay rfl rfl rfl hd_X0_stay ⟨Nat.le_of_ble_eq_true rfl, Nat.le_of_ble_eq_true rfl⟩) hK hNs hZ hP hD hS hA rfl rfl rfl hl.1 (Nat.le_of_ble_eq_true rfl) dL_act_108 rfl ⟨Nat.le_of_ble_eq_true rfl, Nat.le_of_ble_eq_true rfl⟩ (fun E ce q H locs hex hP hD hS hcell hv hcl => ?_)
  rcases hex with ⟨hT2, rfl⟩ | ⟨hT2, rfl⟩ | ⟨hT2, rfl⟩
  · exact absurd (hT.symm.trans hT2) (by decide)
  · exact absurd (hT.symm.trans hT2) (by decide)
  · refine vx_catch (name := nIS) hown [⟨0, 217, 218, 60⟩, ⟨0, 217, 223, 63⟩] ⟨0, 217, 228, 66⟩ [] (by rw [htab]; rfl) (fun z hz => by
        rcases List.mem_cons.mp hz with rfl | hz
        · exact Or.inr ⟨by decide, nIO, hts (.classLink RL 60 nIO) (by decide +kernel), hNs.2.2.1.2.1⟩
        · rcases List.mem_singleton.mp hz with rfl
          exact Or.inr ⟨by decide, nIA, hts (.classLink RL 63 nIA) (by decide +kernel), hNs.2.2.1.2.2⟩) (by decide) (by decide) (hts (.classLink RL 66 nIS) (by decide +kernel)) (va_Nw.use rfl hNs.2.1.2.1) hcell hv hcl ?_
    refine lv_astore (lv' := [(6, .ref q), (0, .ref h), (1, .int 7), (2, .int i1), (3, .int i2), (4, .int i3), (5, .int i4)]) hx hb dL_act_228 hl (by decide) rfl (fun ls hl => ?_)
    refine lv_ldc (v := -70013) hx hb hown (hts (.constant RL 68 (-70013)) (by decide +kernel)) dL_act_230 ?_
    exact hret H locs _ 232 ls _ rfl hS hP hD rfl dL_act_232
set_option maxHeartbeats 4000000 in
set_option maxRecDepth 100000 in
theorem a_step (l : Launch) (dC : Nat → ClassId) (dI : Nat → Nat → Nat) (cI cZ : ClassId) (h : Nat) (a : Nat → Nat) (qph : AR) (qgr : AR) (qne : AR) (qap : AR) (qle : AR) (qfu : AR) (qpc : Int32) (qgd : Int32) (qri : Int32) (qnw : Int32) (qtk : Int32) (qsv : Int32) (qwa : AR) (qgi : AR) (qlo : AR) (qtu : AR) (n : Nat) (i1 i2 i3 i4 : Int32) (hpc : qpc = nI n) (hn : n ≤ 8) (hok : (X0_step_T n i1) = 0) : Lk l yL_act wsL_act rmL_act dC dI cI cZ [.ref h, .int 8, .int i1, .int i2, .int i3, .int i4] (xW cI cZ h a qph qgr qne qap qle qfu qpc qgd qri qnw qtk qsv qwa qgi qlo qtu) ((X0_step qph qgr qne qap qle qfu qgd qri qnw qtk qwa qgi qlo qtu n i1).1) (fun w2 => w2 = (xW cI cZ h a qph qgr ((X0_step qph qgr qne qap qle qfu qgd qri qnw qtk qwa qgi qlo qtu n i1).2.1) qap qle qfu qpc qgd qri ((X0_step qph qgr qne qap qle qfu qgd qri qnw qtk qwa qgi qlo qtu n i1).2.2.1) ((X0_step qph qgr qne qap qle qfu qgd qri qnw qtk qwa qgi qlo qtu n i1).2.2.2.1) qsv ((X0_step qph qgr qne qap qle qfu qgd qri qnw qtk qwa qgi qlo qtu n i1).2.2.2.2.1) ((X0_step qph qgr qne qap qle qfu qgd qri qnw qtk qwa qgi qlo qtu n i1).2.2.2.2.2.1) ((X0_step qph qgr qne qap qle qfu qgd qri qnw qtk qwa qgi qlo qtu n i1).2.2.2.2.2.2.1) ((X0_step qph qgr qne qap qle qfu qgd qri qnw qtk qwa qgi qlo qtu n i1).2.2.2.2.2.2.2))) 0 0 := by
  refine lk_enterH (cc := cL_act) (maxL := 7) (by decide) rfl (Nat.le_of_ble_eq_true rfl) ?_
  intro p e s m args below meth c A ls Q hC htab hK hNs hZ hP hD hS hA hl hret
  obtain ⟨hx, hb, hml, hown, hts⟩ := id hC
  have hl : lv_has ls 7 [(0, .ref h), (1, .int 8), (2, .int i1), (3, .int i2), (4, .int i3), (5, .int i4)] := hl
  refine lv_iload_n hx hb dL_act_0 rfl (lv_at hl 1 rfl) ?_
  refine lv_if_ne (tgt := 13) hx hb dL_act_1 (by decide) (fun _ => ?_) (fun c => absurd c (by decide))
  refine lv_iload_n hx hb dL_act_13 rfl (lv_at hl 1 rfl) ?_
  refine lv_iconst (v := 1) hx hb dL_act_14 (by decide) ?_
  refine lv_icmp_ne (tgt := 27) hx hb dL_act_15 (by decide) (fun _ => ?_) (fun c => absurd c (by decide))
  refine lv_iload_n hx hb dL_act_27 rfl (lv_at hl 1 rfl) ?_
  refine lv_iconst (v := 2) hx hb dL_act_28 (by decide) ?_
  refine lv_icmp_ne (tgt := 40) hx hb dL_act_29 (by decide) (fun _ => ?_) (fun c => absurd c (by decide))
  refine lv_iload_n hx hb dL_act_40 rfl (lv_at hl 1 rfl) ?_
  refine lv_iconst (v := 3) hx hb dL_act_41 (by decide) ?_
  refine lv_icmp_ne (tgt := 53) hx hb dL_act_42 (by decide) (fun _ => ?_) (fun c => absurd c (by decide))
  refine lv_iload_n hx hb dL_act_53 rfl (lv_at hl 1 rfl) ?_
  refine lv_iconst (v := 4) hx hb dL_act_54 (by decide) ?_
  refine lv_icmp_ne (tgt := 71) hx hb dL_act_55 (by decide) (fun _ => ?_) (fun c => absurd c (by decide))
  refine lv_iload_n hx hb dL_act_71 rfl (lv_at hl 1 rfl) ?_
  refine lv_iconst (v := 5) hx hb dL_act_72 (by decide) ?_
  refine lv_icmp_ne (tgt := 84) hx hb dL_act_73 (by decide) (fun _ => ?_) (fun c => absurd c (by decide))
  refine lv_iload_n hx hb dL_act_84 rfl (lv_at hl 1 rfl) ?_
  refine lv_bipush (v := 6) hx hb dL_act_85 (by decide) ?_
  refine lv_icmp_ne (tgt := 99) hx hb dL_act_87 (by decide) (fun _ => ?_) (fun c => absurd c (by decide))
  refine lv_iload_n hx hb dL_act_99 rfl (lv_at hl 1 rfl) ?_
  refine lv_bipush (v := 7) hx hb dL_act_100 (by decide) ?_
  refine lv_icmp_ne (tgt := 114) hx hb dL_act_102 (by decide) (fun _ => ?_) (fun c => absurd c (by decide))
  refine lv_iload_n hx hb dL_act_114 rfl (lv_at hl 1 rfl) ?_
  refine lv_bipush (v := 8) hx hb dL_act_115 (by decide) ?_
  refine lv_icmp_ne (tgt := 128) hx hb dL_act_117 (by decide) (fun c => absurd (by decide) c) (fun _ => ?_)
  refine lv_aload_n hx hb dL_act_120 rfl (lv_at hl 0 rfl) ?_
  refine lv_iload_n hx hb dL_act_121 rfl (lv_at hl 2 rfl) ?_
  refine k_calli (rest := []) (q0 := 0) hC (c_X0_step l dC dI cI cZ h a qph qgr qne qap qle qfu qpc qgd qri qnw qtk qsv qwa qgi qlo qtu n i1 hpc hn hok) (cwV 1 hts gL_act_X0_step rfl rfl rfl hd_X0_step ⟨Nat.le_of_ble_eq_true rfl, Nat.le_of_ble_eq_true rfl⟩) hK hP hD hS hA rfl rfl rfl hl.1 (Nat.le_of_ble_eq_true rfl) dL_act_122 rfl ⟨Nat.zero_le _, Nat.zero_le _⟩ (fun H locs hP hD hS => ?_)
  refine lv_goto (tgt := 217) hx hb dL_act_125 (by decide) ?_
  exact hret H locs _ 217 ls _ rfl hS hP hD rfl dL_act_217
set_option maxHeartbeats 4000000 in
set_option maxRecDepth 100000 in
theorem a_step_1 (l : Launch) (hl0 : l.stackTraces = false) (dC : Nat → ClassId) (dI : Nat → Nat → Nat) (cI cZ : ClassId) (h : Nat) (a : Nat → Nat) (qph : AR) (qgr : AR) (qne : AR) (qap : AR) (qle : AR) (qfu : AR) (qpc : Int32) (qgd : Int32) (qri : Int32) (qnw : Int32) (qtk : Int32) (qsv : Int32) (qwa : AR) (qgi : AR) (qlo : AR) (qtu : AR) (n : Nat) (i1 i2 i3 i4 : Int32) (hpc : qpc = nI n) (hn : n ≤ 8) (hT : (X0_step_T n i1) = 1) : Lk l yL_act wsL_act rmxL_act dC dI cI cZ [.ref h, .int 8, .int i1, .int i2, .int i3, .int i4] (xW cI cZ h a qph qgr qne qap qle qfu qpc qgd qri qnw qtk qsv qwa qgi qlo qtu) (-70012) (fun w2 => w2 = (xW cI cZ h a qph qgr qne qap qle qfu qpc qgd qri qnw qtk qsv qwa qgi qlo qtu)) 1 6 := by
  refine lk_enterH (cc := cL_act) (maxL := 7) (by decide) rfl (Nat.le_of_ble_eq_true rfl) ?_
  intro p e s m args below meth c A ls Q hC htab hK hNs hZ hP hD hS hA hl hret
  obtain ⟨hx, hb, hml, hown, hts⟩ := id hC
  have hl : lv_has ls 7 [(0, .ref h), (1, .int 8), (2, .int i1), (3, .int i2), (4, .int i3), (5, .int i4)] := hl
  refine lv_iload_n hx hb dL_act_0 rfl (lv_at hl 1 rfl) ?_
  refine lv_if_ne (tgt := 13) hx hb dL_act_1 (by decide) (fun _ => ?_) (fun c => absurd c (by decide))
  refine lv_iload_n hx hb dL_act_13 rfl (lv_at hl 1 rfl) ?_
  refine lv_iconst (v := 1) hx hb dL_act_14 (by decide) ?_
  refine lv_icmp_ne (tgt := 27) hx hb dL_act_15 (by decide) (fun _ => ?_) (fun c => absurd c (by decide))
  refine lv_iload_n hx hb dL_act_27 rfl (lv_at hl 1 rfl) ?_
  refine lv_iconst (v := 2) hx hb dL_act_28 (by decide) ?_
  refine lv_icmp_ne (tgt := 40) hx hb dL_act_29 (by decide) (fun _ => ?_) (fun c => absurd c (by decide))
  refine lv_iload_n hx hb dL_act_40 rfl (lv_at hl 1 rfl) ?_
  refine lv_iconst (v := 3) hx hb dL_act_41 (by decide) ?_
  refine lv_icmp_ne (tgt := 53) hx hb dL_act_42 (by decide) (fun _ => ?_) (fun c => absurd c (by decide))
  refine lv_iload_n hx hb dL_act_53 rfl (lv_at hl 1 rfl) ?_
  refine lv_iconst (v := 4) hx hb dL_act_54 (by decide) ?_
  refine lv_icmp_ne (tgt := 71) hx hb dL_act_55 (by decide) (fun _ => ?_) (fun c => absurd c (by decide))
  refine lv_iload_n hx hb dL_act_71 rfl (lv_at hl 1 rfl) ?_
  refine lv_iconst (v := 5) hx hb dL_act_72 (by decide) ?_
  refine lv_icmp_ne (tgt := 84) hx hb dL_act_73 (by decide) (fun _ => ?_) (fun c => absurd c (by decide))
  refine lv_iload_n hx hb dL_act_84 rfl (lv_at hl 1 rfl) ?_
  refine lv_bipush (v := 6) hx hb dL_act_85 (by decide) ?_
  refine lv_icmp_ne (tgt := 99) hx hb dL_act_87 (by decide) (fun _ => ?_) (fun c => absurd c (by decide))
  refine lv_iload_n hx hb dL_act_99 rfl (lv_at hl 1 rfl) ?_
  refine lv_bipush (v := 7) hx hb dL_act_100 (by decide) ?_
  refine lv_icmp_ne (tgt := 114) hx hb dL_act_102 (by decide) (fun _ => ?_) (fun c => absurd c (by decide))
  refine lv_iload_n hx hb dL_act_114 rfl (lv_at hl 1 rfl) ?_
  refine lv_bipush (v := 8) hx hb dL_act_115 (by decide) ?_
  refine lv_icmp_ne (tgt := 128) hx hb dL_act_117 (by decide) (fun c => absurd (by decide) c) (fun _ => ?_)
  refine lv_aload_n hx hb dL_act_120 rfl (lv_at hl 0 rfl) ?_
  refine lv_iload_n hx hb dL_act_121 rfl (lv_at hl 2 rfl) ?_
  refine kx_callV (rest := []) (q0 := 0) hC (cx_X0_step l hl0 dC dI cI cZ h a qph qgr qne qap qle qfu qpc qgd qri qnw qtk qsv qwa qgi qlo qtu n i1 hpc hn (by rw [hT]; decide)) (cwV 1 hts gL_act_X0_step rfl rfl rfl hd_X0_step ⟨Nat.le_of_ble_eq_true rfl, Nat.le_of_ble_eq_true rfl⟩) hK hNs hZ hP hD hS hA rfl rfl rfl hl.1 (Nat.le_of_ble_eq_true rfl) dL_act_122 rfl ⟨Nat.le_of_ble_eq_true rfl, Nat.le_of_ble_eq_true rfl⟩ (fun E ce q H locs hex hP hD hS hcell hv hcl => ?_)
  obtain ⟨hT2, rfl⟩ := hex
  refine vx_catch (name := nIA) hown [⟨0, 217, 218, 60⟩] ⟨0, 217, 223, 63⟩ [⟨0, 217, 228, 66⟩] (by rw [htab]; rfl) (fun z hz => by rcases List.mem_singleton.mp hz with rfl; exact Or.inr ⟨by decide, nIO, hts (.classLink RL 60 nIO) (by decide +kernel), hNs.2.2.1.1⟩) (by decide) (by decide) (hts (.classLink RL 63 nIA) (by decide +kernel)) (va_Nw.use rfl hNs.2.1.1) hcell hv hcl ?_
  refine lv_astore (lv' := [(6, .ref q), (0, .ref h), (1, .int 8), (2, .int i1), (3, .int i2), (4, .int i3), (5, .int i4)]) hx hb dL_act_223 hl (by decide) rfl (fun ls hl => ?_)
  refine lv_ldc (v := -70012) hx hb hown (hts (.constant RL 65 (-70012)) (by decide +kernel)) dL_act_225 ?_
  exact hret H locs _ 227 ls _ rfl hS hP hD rfl dL_act_227
set_option maxHeartbeats 4000000 in
set_option maxRecDepth 100000 in
theorem a_need (l : Launch) (dC : Nat → ClassId) (dI : Nat → Nat → Nat) (cI cZ : ClassId) (h : Nat) (a : Nat → Nat) (qph : AR) (qgr : AR) (qne : AR) (qap : AR) (qle : AR) (qfu : AR) (qpc : Int32) (qgd : Int32) (qri : Int32) (qnw : Int32) (qtk : Int32) (qsv : Int32) (qwa : AR) (qgi : AR) (qlo : AR) (qtu : AR) (n : Nat) (i1 i2 i3 i4 : Int32) (hpc : qpc = nI n) (hn : n ≤ 8) (hok : (X0_need_T qpc n i1) = 0) : Lk l yL_act wsL_act rmL_act dC dI cI cZ [.ref h, .int 9, .int i1, .int i2, .int i3, .int i4] (xW cI cZ h a qph qgr qne qap qle qfu qpc qgd qri qnw qtk qsv qwa qgi qlo qtu) (X0_need qne qpc n i1) (fun w2 => w2 = (xW cI cZ h a qph qgr qne qap qle qfu qpc qgd qri qnw qtk qsv qwa qgi qlo qtu)) 0 0 := by
  refine lk_enterH (cc := cL_act) (maxL := 7) (by decide) rfl (Nat.le_of_ble_eq_true rfl) ?_
  intro p e s m args below meth c A ls Q hC htab hK hNs hZ hP hD hS hA hl hret
  obtain ⟨hx, hb, hml, hown, hts⟩ := id hC
  have hl : lv_has ls 7 [(0, .ref h), (1, .int 9), (2, .int i1), (3, .int i2), (4, .int i3), (5, .int i4)] := hl
  refine lv_iload_n hx hb dL_act_0 rfl (lv_at hl 1 rfl) ?_
  refine lv_if_ne (tgt := 13) hx hb dL_act_1 (by decide) (fun _ => ?_) (fun c => absurd c (by decide))
  refine lv_iload_n hx hb dL_act_13 rfl (lv_at hl 1 rfl) ?_
  refine lv_iconst (v := 1) hx hb dL_act_14 (by decide) ?_
  refine lv_icmp_ne (tgt := 27) hx hb dL_act_15 (by decide) (fun _ => ?_) (fun c => absurd c (by decide))
  refine lv_iload_n hx hb dL_act_27 rfl (lv_at hl 1 rfl) ?_
  refine lv_iconst (v := 2) hx hb dL_act_28 (by decide) ?_
  refine lv_icmp_ne (tgt := 40) hx hb dL_act_29 (by decide) (fun _ => ?_) (fun c => absurd c (by decide))
  refine lv_iload_n hx hb dL_act_40 rfl (lv_at hl 1 rfl) ?_
  refine lv_iconst (v := 3) hx hb dL_act_41 (by decide) ?_
  refine lv_icmp_ne (tgt := 53) hx hb dL_act_42 (by decide) (fun _ => ?_) (fun c => absurd c (by decide))
  refine lv_iload_n hx hb dL_act_53 rfl (lv_at hl 1 rfl) ?_
  refine lv_iconst (v := 4) hx hb dL_act_54 (by decide) ?_
  refine lv_icmp_ne (tgt := 71) hx hb dL_act_55 (by decide) (fun _ => ?_) (fun c => absurd c (by decide))
  refine lv_iload_n hx hb dL_act_71 rfl (lv_at hl 1 rfl) ?_
  refine lv_iconst (v := 5) hx hb dL_act_72 (by decide) ?_
  refine lv_icmp_ne (tgt := 84) hx hb dL_act_73 (by decide) (fun _ => ?_) (fun c => absurd c (by decide))
  refine lv_iload_n hx hb dL_act_84 rfl (lv_at hl 1 rfl) ?_
  refine lv_bipush (v := 6) hx hb dL_act_85 (by decide) ?_
  refine lv_icmp_ne (tgt := 99) hx hb dL_act_87 (by decide) (fun _ => ?_) (fun c => absurd c (by decide))
  refine lv_iload_n hx hb dL_act_99 rfl (lv_at hl 1 rfl) ?_
  refine lv_bipush (v := 7) hx hb dL_act_100 (by decide) ?_
  refine lv_icmp_ne (tgt := 114) hx hb dL_act_102 (by decide) (fun _ => ?_) (fun c => absurd c (by decide))
  refine lv_iload_n hx hb dL_act_114 rfl (lv_at hl 1 rfl) ?_
  refine lv_bipush (v := 8) hx hb dL_act_115 (by decide) ?_
  refine lv_icmp_ne (tgt := 128) hx hb dL_act_117 (by decide) (fun _ => ?_) (fun c => absurd c (by decide))
  refine lv_iload_n hx hb dL_act_128 rfl (lv_at hl 1 rfl) ?_
  refine lv_bipush (v := 9) hx hb dL_act_129 (by decide) ?_
  refine lv_icmp_ne (tgt := 142) hx hb dL_act_131 (by decide) (fun c => absurd (by decide) c) (fun _ => ?_)
  refine lv_aload_n hx hb dL_act_134 rfl (lv_at hl 0 rfl) ?_
  refine lv_iload_n hx hb dL_act_135 rfl (lv_at hl 2 rfl) ?_
  refine k_calli (rest := []) (q0 := 0) hC (c_X0_need l dC dI cI cZ h a qph qgr qne qap qle qfu qpc qgd qri qnw qtk qsv qwa qgi qlo qtu n i1 hpc hn hok) (cwV 1 hts gL_act_X0_need rfl rfl rfl hd_X0_need ⟨Nat.le_of_ble_eq_true rfl, Nat.le_of_ble_eq_true rfl⟩) hK hP hD hS hA rfl rfl rfl hl.1 (Nat.le_of_ble_eq_true rfl) dL_act_136 rfl ⟨Nat.zero_le _, Nat.zero_le _⟩ (fun H locs hP hD hS => ?_)
  refine lv_goto (tgt := 217) hx hb dL_act_139 (by decide) ?_
  exact hret H locs _ 217 ls _ rfl hS hP hD rfl dL_act_217
set_option maxHeartbeats 4000000 in
set_option maxRecDepth 100000 in
theorem a_need_1 (l : Launch) (hl0 : l.stackTraces = false) (dC : Nat → ClassId) (dI : Nat → Nat → Nat) (cI cZ : ClassId) (h : Nat) (a : Nat → Nat) (qph : AR) (qgr : AR) (qne : AR) (qap : AR) (qle : AR) (qfu : AR) (qpc : Int32) (qgd : Int32) (qri : Int32) (qnw : Int32) (qtk : Int32) (qsv : Int32) (qwa : AR) (qgi : AR) (qlo : AR) (qtu : AR) (n : Nat) (i1 i2 i3 i4 : Int32) (hpc : qpc = nI n) (hn : n ≤ 8) (hT : (X0_need_T qpc n i1) = 1) : Lk l yL_act wsL_act rmxL_act dC dI cI cZ [.ref h, .int 9, .int i1, .int i2, .int i3, .int i4] (xW cI cZ h a qph qgr qne qap qle qfu qpc qgd qri qnw qtk qsv qwa qgi qlo qtu) (-70011) (fun w2 => w2 = (xW cI cZ h a qph qgr qne qap qle qfu qpc qgd qri qnw qtk qsv qwa qgi qlo qtu)) 1 6 := by
  refine lk_enterH (cc := cL_act) (maxL := 7) (by decide) rfl (Nat.le_of_ble_eq_true rfl) ?_
  intro p e s m args below meth c A ls Q hC htab hK hNs hZ hP hD hS hA hl hret
  obtain ⟨hx, hb, hml, hown, hts⟩ := id hC
  have hl : lv_has ls 7 [(0, .ref h), (1, .int 9), (2, .int i1), (3, .int i2), (4, .int i3), (5, .int i4)] := hl
  refine lv_iload_n hx hb dL_act_0 rfl (lv_at hl 1 rfl) ?_
  refine lv_if_ne (tgt := 13) hx hb dL_act_1 (by decide) (fun _ => ?_) (fun c => absurd c (by decide))
  refine lv_iload_n hx hb dL_act_13 rfl (lv_at hl 1 rfl) ?_
  refine lv_iconst (v := 1) hx hb dL_act_14 (by decide) ?_
  refine lv_icmp_ne (tgt := 27) hx hb dL_act_15 (by decide) (fun _ => ?_) (fun c => absurd c (by decide))
  refine lv_iload_n hx hb dL_act_27 rfl (lv_at hl 1 rfl) ?_
  refine lv_iconst (v := 2) hx hb dL_act_28 (by decide) ?_
  refine lv_icmp_ne (tgt := 40) hx hb dL_act_29 (by decide) (fun _ => ?_) (fun c => absurd c (by decide))
  refine lv_iload_n hx hb dL_act_40 rfl (lv_at hl 1 rfl) ?_
  refine lv_iconst (v := 3) hx hb dL_act_41 (by decide) ?_
  refine lv_icmp_ne (tgt := 53) hx hb dL_act_42 (by decide) (fun _ => ?_) (fun c => absurd c (by decide))
  refine lv_iload_n hx hb dL_act_53 rfl (lv_at hl 1 rfl) ?_
  refine lv_iconst (v := 4) hx hb dL_act_54 (by decide) ?_
  refine lv_icmp_ne (tgt := 71) hx hb dL_act_55 (by decide) (fun _ => ?_) (fun c => absurd c (by decide))
  refine lv_iload_n hx hb dL_act_71 rfl (lv_at hl 1 rfl) ?_
  refine lv_iconst (v := 5) hx hb dL_act_72 (by decide) ?_
  refine lv_icmp_ne (tgt := 84) hx hb dL_act_73 (by decide) (fun _ => ?_) (fun c => absurd c (by decide))
  refine lv_iload_n hx hb dL_act_84 rfl (lv_at hl 1 rfl) ?_
  refine lv_bipush (v := 6) hx hb dL_act_85 (by decide) ?_
  refine lv_icmp_ne (tgt := 99) hx hb dL_act_87 (by decide) (fun _ => ?_) (fun c => absurd c (by decide))
  refine lv_iload_n hx hb dL_act_99 rfl (lv_at hl 1 rfl) ?_
  refine lv_bipush (v := 7) hx hb dL_act_100 (by decide) ?_
  refine lv_icmp_ne (tgt := 114) hx hb dL_act_102 (by decide) (fun _ => ?_) (fun c => absurd c (by decide))
  refine lv_iload_n hx hb dL_act_114 rfl (lv_at hl 1 rfl) ?_
  refine lv_bipush (v := 8) hx hb dL_act_115 (by decide) ?_
  refine lv_icmp_ne (tgt := 128) hx hb dL_act_117 (by decide) (fun _ => ?_) (fun c => absurd c (by decide))
  refine lv_iload_n hx hb dL_act_128 rfl (lv_at hl 1 rfl) ?_
  refine lv_bipush (v := 9) hx hb dL_act_129 (by decide) ?_
  refine lv_icmp_ne (tgt := 142) hx hb dL_act_131 (by decide) (fun c => absurd (by decide) c) (fun _ => ?_)
  refine lv_aload_n hx hb dL_act_134 rfl (lv_at hl 0 rfl) ?_
  refine lv_iload_n hx hb dL_act_135 rfl (lv_at hl 2 rfl) ?_
  refine kx_callV (rest := []) (q0 := 0) hC (cx_X0_need l hl0 dC dI cI cZ h a qph qgr qne qap qle qfu qpc qgd qri qnw qtk qsv qwa qgi qlo qtu n i1 hpc hn (by rw [hT]; decide)) (cwV 1 hts gL_act_X0_need rfl rfl rfl hd_X0_need ⟨Nat.le_of_ble_eq_true rfl, Nat.le_of_ble_eq_true rfl⟩) hK hNs hZ hP hD hS hA rfl rfl rfl hl.1 (Nat.le_of_ble_eq_true rfl) dL_act_136 rfl ⟨Nat.le_of_ble_eq_true rfl, Nat.le_of_ble_eq_true rfl⟩ (fun E ce q H locs hex hP hD hS hcell hv hcl => ?_)
  obtain ⟨hT2, rfl⟩ := hex
  refine vx_catch (name := nIO) hown [] ⟨0, 217, 218, 60⟩ [⟨0, 217, 223, 63⟩, ⟨0, 217, 228, 66⟩] (by rw [htab]; rfl) (fun z hz => nomatch hz) (by decide) (by decide) (hts (.classLink RL 60 nIO) (by decide +kernel)) (va_Nw.use rfl hNs.2.1.2.2) hcell hv hcl ?_
  refine lv_astore (lv' := [(6, .ref q), (0, .ref h), (1, .int 9), (2, .int i1), (3, .int i2), (4, .int i3), (5, .int i4)]) hx hb dL_act_218 hl (by decide) rfl (fun ls hl => ?_)
  refine lv_ldc (v := -70011) hx hb hown (hts (.constant RL 62 (-70011)) (by decide +kernel)) dL_act_220 ?_
  exact hret H locs _ 222 ls _ rfl hS hP hD rfl dL_act_222
set_option maxHeartbeats 4000000 in
set_option maxRecDepth 100000 in
theorem a_left (l : Launch) (dC : Nat → ClassId) (dI : Nat → Nat → Nat) (cI cZ : ClassId) (h : Nat) (a : Nat → Nat) (qph : AR) (qgr : AR) (qne : AR) (qap : AR) (qle : AR) (qfu : AR) (qpc : Int32) (qgd : Int32) (qri : Int32) (qnw : Int32) (qtk : Int32) (qsv : Int32) (qwa : AR) (qgi : AR) (qlo : AR) (qtu : AR) (n : Nat) (i1 i2 i3 i4 : Int32) (hpc : qpc = nI n) (hn : n ≤ 8) (hok : (X0_left_T qpc n i1) = 0) : Lk l yL_act wsL_act rmL_act dC dI cI cZ [.ref h, .int 10, .int i1, .int i2, .int i3, .int i4] (xW cI cZ h a qph qgr qne qap qle qfu qpc qgd qri qnw qtk qsv qwa qgi qlo qtu) (X0_left qne qle qpc qnw n i1) (fun w2 => w2 = (xW cI cZ h a qph qgr qne qap qle qfu qpc qgd qri qnw qtk qsv qwa qgi qlo qtu)) 0 0 := by
  refine lk_enterH (cc := cL_act) (maxL := 7) (by decide) rfl (Nat.le_of_ble_eq_true rfl) ?_
  intro p e s m args below meth c A ls Q hC htab hK hNs hZ hP hD hS hA hl hret
  obtain ⟨hx, hb, hml, hown, hts⟩ := id hC
  have hl : lv_has ls 7 [(0, .ref h), (1, .int 10), (2, .int i1), (3, .int i2), (4, .int i3), (5, .int i4)] := hl
  refine lv_iload_n hx hb dL_act_0 rfl (lv_at hl 1 rfl) ?_
  refine lv_if_ne (tgt := 13) hx hb dL_act_1 (by decide) (fun _ => ?_) (fun c => absurd c (by decide))
  refine lv_iload_n hx hb dL_act_13 rfl (lv_at hl 1 rfl) ?_
  refine lv_iconst (v := 1) hx hb dL_act_14 (by decide) ?_
  refine lv_icmp_ne (tgt := 27) hx hb dL_act_15 (by decide) (fun _ => ?_) (fun c => absurd c (by decide))
  refine lv_iload_n hx hb dL_act_27 rfl (lv_at hl 1 rfl) ?_
  refine lv_iconst (v := 2) hx hb dL_act_28 (by decide) ?_
  refine lv_icmp_ne (tgt := 40) hx hb dL_act_29 (by decide) (fun _ => ?_) (fun c => absurd c (by decide))
  refine lv_iload_n hx hb dL_act_40 rfl (lv_at hl 1 rfl) ?_
  refine lv_iconst (v := 3) hx hb dL_act_41 (by decide) ?_
  refine lv_icmp_ne (tgt := 53) hx hb dL_act_42 (by decide) (fun _ => ?_) (fun c => absurd c (by decide))
  refine lv_iload_n hx hb dL_act_53 rfl (lv_at hl 1 rfl) ?_
  refine lv_iconst (v := 4) hx hb dL_act_54 (by decide) ?_
  refine lv_icmp_ne (tgt := 71) hx hb dL_act_55 (by decide) (fun _ => ?_) (fun c => absurd c (by decide))
  refine lv_iload_n hx hb dL_act_71 rfl (lv_at hl 1 rfl) ?_
  refine lv_iconst (v := 5) hx hb dL_act_72 (by decide) ?_
  refine lv_icmp_ne (tgt := 84) hx hb dL_act_73 (by decide) (fun _ => ?_) (fun c => absurd c (by decide))
  refine lv_iload_n hx hb dL_act_84 rfl (lv_at hl 1 rfl) ?_
  refine lv_bipush (v := 6) hx hb dL_act_85 (by decide) ?_
  refine lv_icmp_ne (tgt := 99) hx hb dL_act_87 (by decide) (fun _ => ?_) (fun c => absurd c (by decide))
  refine lv_iload_n hx hb dL_act_99 rfl (lv_at hl 1 rfl) ?_
  refine lv_bipush (v := 7) hx hb dL_act_100 (by decide) ?_
  refine lv_icmp_ne (tgt := 114) hx hb dL_act_102 (by decide) (fun _ => ?_) (fun c => absurd c (by decide))
  refine lv_iload_n hx hb dL_act_114 rfl (lv_at hl 1 rfl) ?_
  refine lv_bipush (v := 8) hx hb dL_act_115 (by decide) ?_
  refine lv_icmp_ne (tgt := 128) hx hb dL_act_117 (by decide) (fun _ => ?_) (fun c => absurd c (by decide))
  refine lv_iload_n hx hb dL_act_128 rfl (lv_at hl 1 rfl) ?_
  refine lv_bipush (v := 9) hx hb dL_act_129 (by decide) ?_
  refine lv_icmp_ne (tgt := 142) hx hb dL_act_131 (by decide) (fun _ => ?_) (fun c => absurd c (by decide))
  refine lv_iload_n hx hb dL_act_142 rfl (lv_at hl 1 rfl) ?_
  refine lv_bipush (v := 10) hx hb dL_act_143 (by decide) ?_
  refine lv_icmp_ne (tgt := 156) hx hb dL_act_145 (by decide) (fun c => absurd (by decide) c) (fun _ => ?_)
  refine lv_aload_n hx hb dL_act_148 rfl (lv_at hl 0 rfl) ?_
  refine lv_iload_n hx hb dL_act_149 rfl (lv_at hl 2 rfl) ?_
  refine k_calli (rest := []) (q0 := 0) hC (c_X0_left l dC dI cI cZ h a qph qgr qne qap qle qfu qpc qgd qri qnw qtk qsv qwa qgi qlo qtu n i1 hpc hn hok) (cwV 1 hts gL_act_X0_left rfl rfl rfl hd_X0_left ⟨Nat.le_of_ble_eq_true rfl, Nat.le_of_ble_eq_true rfl⟩) hK hP hD hS hA rfl rfl rfl hl.1 (Nat.le_of_ble_eq_true rfl) dL_act_150 rfl ⟨Nat.zero_le _, Nat.zero_le _⟩ (fun H locs hP hD hS => ?_)
  refine lv_goto (tgt := 217) hx hb dL_act_153 (by decide) ?_
  exact hret H locs _ 217 ls _ rfl hS hP hD rfl dL_act_217
set_option maxHeartbeats 4000000 in
set_option maxRecDepth 100000 in
theorem a_left_1 (l : Launch) (hl0 : l.stackTraces = false) (dC : Nat → ClassId) (dI : Nat → Nat → Nat) (cI cZ : ClassId) (h : Nat) (a : Nat → Nat) (qph : AR) (qgr : AR) (qne : AR) (qap : AR) (qle : AR) (qfu : AR) (qpc : Int32) (qgd : Int32) (qri : Int32) (qnw : Int32) (qtk : Int32) (qsv : Int32) (qwa : AR) (qgi : AR) (qlo : AR) (qtu : AR) (n : Nat) (i1 i2 i3 i4 : Int32) (hpc : qpc = nI n) (hn : n ≤ 8) (hT : (X0_left_T qpc n i1) = 1) : Lk l yL_act wsL_act rmxL_act dC dI cI cZ [.ref h, .int 10, .int i1, .int i2, .int i3, .int i4] (xW cI cZ h a qph qgr qne qap qle qfu qpc qgd qri qnw qtk qsv qwa qgi qlo qtu) (-70011) (fun w2 => w2 = (xW cI cZ h a qph qgr qne qap qle qfu qpc qgd qri qnw qtk qsv qwa qgi qlo qtu)) 1 6 := by
  refine lk_enterH (cc := cL_act) (maxL := 7) (by decide) rfl (Nat.le_of_ble_eq_true rfl) ?_
  intro p e s m args below meth c A ls Q hC htab hK hNs hZ hP hD hS hA hl hret
  obtain ⟨hx, hb, hml, hown, hts⟩ := id hC
  have hl : lv_has ls 7 [(0, .ref h), (1, .int 10), (2, .int i1), (3, .int i2), (4, .int i3), (5, .int i4)] := hl
  refine lv_iload_n hx hb dL_act_0 rfl (lv_at hl 1 rfl) ?_
  refine lv_if_ne (tgt := 13) hx hb dL_act_1 (by decide) (fun _ => ?_) (fun c => absurd c (by decide))
  refine lv_iload_n hx hb dL_act_13 rfl (lv_at hl 1 rfl) ?_
  refine lv_iconst (v := 1) hx hb dL_act_14 (by decide) ?_
  refine lv_icmp_ne (tgt := 27) hx hb dL_act_15 (by decide) (fun _ => ?_) (fun c => absurd c (by decide))
  refine lv_iload_n hx hb dL_act_27 rfl (lv_at hl 1 rfl) ?_
  refine lv_iconst (v := 2) hx hb dL_act_28 (by decide) ?_
  refine lv_icmp_ne (tgt := 40) hx hb dL_act_29 (by decide) (fun _ => ?_) (fun c => absurd c (by decide))
  refine lv_iload_n hx hb dL_act_40 rfl (lv_at hl 1 rfl) ?_
  refine lv_iconst (v := 3) hx hb dL_act_41 (by decide) ?_
  refine lv_icmp_ne (tgt := 53) hx hb dL_act_42 (by decide) (fun _ => ?_) (fun c => absurd c (by decide))
  refine lv_iload_n hx hb dL_act_53 rfl (lv_at hl 1 rfl) ?_
  refine lv_iconst (v := 4) hx hb dL_act_54 (by decide) ?_
  refine lv_icmp_ne (tgt := 71) hx hb dL_act_55 (by decide) (fun _ => ?_) (fun c => absurd c (by decide))
  refine lv_iload_n hx hb dL_act_71 rfl (lv_at hl 1 rfl) ?_
  refine lv_iconst (v := 5) hx hb dL_act_72 (by decide) ?_
  refine lv_icmp_ne (tgt := 84) hx hb dL_act_73 (by decide) (fun _ => ?_) (fun c => absurd c (by decide))
  refine lv_iload_n hx hb dL_act_84 rfl (lv_at hl 1 rfl) ?_
  refine lv_bipush (v := 6) hx hb dL_act_85 (by decide) ?_
  refine lv_icmp_ne (tgt := 99) hx hb dL_act_87 (by decide) (fun _ => ?_) (fun c => absurd c (by decide))
  refine lv_iload_n hx hb dL_act_99 rfl (lv_at hl 1 rfl) ?_
  refine lv_bipush (v := 7) hx hb dL_act_100 (by decide) ?_
  refine lv_icmp_ne (tgt := 114) hx hb dL_act_102 (by decide) (fun _ => ?_) (fun c => absurd c (by decide))
  refine lv_iload_n hx hb dL_act_114 rfl (lv_at hl 1 rfl) ?_
  refine lv_bipush (v := 8) hx hb dL_act_115 (by decide) ?_
  refine lv_icmp_ne (tgt := 128) hx hb dL_act_117 (by decide) (fun _ => ?_) (fun c => absurd c (by decide))
  refine lv_iload_n hx hb dL_act_128 rfl (lv_at hl 1 rfl) ?_
  refine lv_bipush (v := 9) hx hb dL_act_129 (by decide) ?_
  refine lv_icmp_ne (tgt := 142) hx hb dL_act_131 (by decide) (fun _ => ?_) (fun c => absurd c (by decide))
  refine lv_iload_n hx hb dL_act_142 rfl (lv_at hl 1 rfl) ?_
  refine lv_bipush (v := 10) hx hb dL_act_143 (by decide) ?_
  refine lv_icmp_ne (tgt := 156) hx hb dL_act_145 (by decide) (fun c => absurd (by decide) c) (fun _ => ?_)
  refine lv_aload_n hx hb dL_act_148 rfl (lv_at hl 0 rfl) ?_
  refine lv_iload_n hx hb dL_act_149 rfl (lv_at hl 2 rfl) ?_
  refine kx_callV (rest := []) (q0 := 0) hC (cx_X0_left l hl0 dC dI cI cZ h a qph qgr qne qap qle qfu qpc qgd qri qnw qtk qsv qwa qgi qlo qtu n i1 hpc hn (by rw [hT]; decide)) (cwV 1 hts gL_act_X0_left rfl rfl rfl hd_X0_left ⟨Nat.le_of_ble_eq_true rfl, Nat.le_of_ble_eq_true rfl⟩) hK hNs hZ hP hD hS hA rfl rfl rfl hl.1 (Nat.le_of_ble_eq_true rfl) dL_act_150 rfl ⟨Nat.le_of_ble_eq_true rfl, Nat.le_of_ble_eq_true rfl⟩ (fun E ce q H locs hex hP hD hS hcell hv hcl => ?_)
  obtain ⟨hT2, rfl⟩ := hex
  refine vx_catch (name := nIO) hown [] ⟨0, 217, 218, 60⟩ [⟨0, 217, 223, 63⟩, ⟨0, 217, 228, 66⟩] (by rw [htab]; rfl) (fun z hz => nomatch hz) (by decide) (by decide) (hts (.classLink RL 60 nIO) (by decide +kernel)) (va_Nw.use rfl hNs.2.1.2.2) hcell hv hcl ?_
  refine lv_astore (lv' := [(6, .ref q), (0, .ref h), (1, .int 10), (2, .int i1), (3, .int i2), (4, .int i3), (5, .int i4)]) hx hb dL_act_218 hl (by decide) rfl (fun ls hl => ?_)
  refine lv_ldc (v := -70011) hx hb hown (hts (.constant RL 62 (-70011)) (by decide +kernel)) dL_act_220 ?_
  exact hret H locs _ 222 ls _ rfl hS hP hD rfl dL_act_222
set_option maxHeartbeats 4000000 in
set_option maxRecDepth 100000 in
theorem a_laxity (l : Launch) (dC : Nat → ClassId) (dI : Nat → Nat → Nat) (cI cZ : ClassId) (h : Nat) (a : Nat → Nat) (qph : AR) (qgr : AR) (qne : AR) (qap : AR) (qle : AR) (qfu : AR) (qpc : Int32) (qgd : Int32) (qri : Int32) (qnw : Int32) (qtk : Int32) (qsv : Int32) (qwa : AR) (qgi : AR) (qlo : AR) (qtu : AR) (n : Nat) (i1 i2 i3 i4 : Int32) (hpc : qpc = nI n) (hn : n ≤ 8) (hok : (X0_laxity_T qne qpc n i1) = 0) : Lk l yL_act wsL_act rmL_act dC dI cI cZ [.ref h, .int 11, .int i1, .int i2, .int i3, .int i4] (xW cI cZ h a qph qgr qne qap qle qfu qpc qgd qri qnw qtk qsv qwa qgi qlo qtu) (X0_laxity qph qgr qne qap qle qpc qnw n i1) (fun w2 => w2 = (xW cI cZ h a qph qgr qne qap qle qfu qpc qgd qri qnw qtk qsv qwa qgi qlo qtu)) 0 0 := by
  refine lk_enterH (cc := cL_act) (maxL := 7) (by decide) rfl (Nat.le_of_ble_eq_true rfl) ?_
  intro p e s m args below meth c A ls Q hC htab hK hNs hZ hP hD hS hA hl hret
  obtain ⟨hx, hb, hml, hown, hts⟩ := id hC
  have hl : lv_has ls 7 [(0, .ref h), (1, .int 11), (2, .int i1), (3, .int i2), (4, .int i3), (5, .int i4)] := hl
  refine lv_iload_n hx hb dL_act_0 rfl (lv_at hl 1 rfl) ?_
  refine lv_if_ne (tgt := 13) hx hb dL_act_1 (by decide) (fun _ => ?_) (fun c => absurd c (by decide))
  refine lv_iload_n hx hb dL_act_13 rfl (lv_at hl 1 rfl) ?_
  refine lv_iconst (v := 1) hx hb dL_act_14 (by decide) ?_
  refine lv_icmp_ne (tgt := 27) hx hb dL_act_15 (by decide) (fun _ => ?_) (fun c => absurd c (by decide))
  refine lv_iload_n hx hb dL_act_27 rfl (lv_at hl 1 rfl) ?_
  refine lv_iconst (v := 2) hx hb dL_act_28 (by decide) ?_
  refine lv_icmp_ne (tgt := 40) hx hb dL_act_29 (by decide) (fun _ => ?_) (fun c => absurd c (by decide))
  refine lv_iload_n hx hb dL_act_40 rfl (lv_at hl 1 rfl) ?_
  refine lv_iconst (v := 3) hx hb dL_act_41 (by decide) ?_
  refine lv_icmp_ne (tgt := 53) hx hb dL_act_42 (by decide) (fun _ => ?_) (fun c => absurd c (by decide))
  refine lv_iload_n hx hb dL_act_53 rfl (lv_at hl 1 rfl) ?_
  refine lv_iconst (v := 4) hx hb dL_act_54 (by decide) ?_
  refine lv_icmp_ne (tgt := 71) hx hb dL_act_55 (by decide) (fun _ => ?_) (fun c => absurd c (by decide))
  refine lv_iload_n hx hb dL_act_71 rfl (lv_at hl 1 rfl) ?_
  refine lv_iconst (v := 5) hx hb dL_act_72 (by decide) ?_
  refine lv_icmp_ne (tgt := 84) hx hb dL_act_73 (by decide) (fun _ => ?_) (fun c => absurd c (by decide))
  refine lv_iload_n hx hb dL_act_84 rfl (lv_at hl 1 rfl) ?_
  refine lv_bipush (v := 6) hx hb dL_act_85 (by decide) ?_
  refine lv_icmp_ne (tgt := 99) hx hb dL_act_87 (by decide) (fun _ => ?_) (fun c => absurd c (by decide))
  refine lv_iload_n hx hb dL_act_99 rfl (lv_at hl 1 rfl) ?_
  refine lv_bipush (v := 7) hx hb dL_act_100 (by decide) ?_
  refine lv_icmp_ne (tgt := 114) hx hb dL_act_102 (by decide) (fun _ => ?_) (fun c => absurd c (by decide))
  refine lv_iload_n hx hb dL_act_114 rfl (lv_at hl 1 rfl) ?_
  refine lv_bipush (v := 8) hx hb dL_act_115 (by decide) ?_
  refine lv_icmp_ne (tgt := 128) hx hb dL_act_117 (by decide) (fun _ => ?_) (fun c => absurd c (by decide))
  refine lv_iload_n hx hb dL_act_128 rfl (lv_at hl 1 rfl) ?_
  refine lv_bipush (v := 9) hx hb dL_act_129 (by decide) ?_
  refine lv_icmp_ne (tgt := 142) hx hb dL_act_131 (by decide) (fun _ => ?_) (fun c => absurd c (by decide))
  refine lv_iload_n hx hb dL_act_142 rfl (lv_at hl 1 rfl) ?_
  refine lv_bipush (v := 10) hx hb dL_act_143 (by decide) ?_
  refine lv_icmp_ne (tgt := 156) hx hb dL_act_145 (by decide) (fun _ => ?_) (fun c => absurd c (by decide))
  refine lv_iload_n hx hb dL_act_156 rfl (lv_at hl 1 rfl) ?_
  refine lv_bipush (v := 11) hx hb dL_act_157 (by decide) ?_
  refine lv_icmp_ne (tgt := 170) hx hb dL_act_159 (by decide) (fun c => absurd (by decide) c) (fun _ => ?_)
  refine lv_aload_n hx hb dL_act_162 rfl (lv_at hl 0 rfl) ?_
  refine lv_iload_n hx hb dL_act_163 rfl (lv_at hl 2 rfl) ?_
  refine k_calli (rest := []) (q0 := 0) hC (c_X0_laxity l dC dI cI cZ h a qph qgr qne qap qle qfu qpc qgd qri qnw qtk qsv qwa qgi qlo qtu n i1 hpc hn hok) (cwV 1 hts gL_act_X0_laxity rfl rfl rfl hd_X0_laxity ⟨Nat.le_of_ble_eq_true rfl, Nat.le_of_ble_eq_true rfl⟩) hK hP hD hS hA rfl rfl rfl hl.1 (Nat.le_of_ble_eq_true rfl) dL_act_164 rfl ⟨Nat.zero_le _, Nat.zero_le _⟩ (fun H locs hP hD hS => ?_)
  refine lv_goto (tgt := 217) hx hb dL_act_167 (by decide) ?_
  exact hret H locs _ 217 ls _ rfl hS hP hD rfl dL_act_217
set_option maxHeartbeats 4000000 in
set_option maxRecDepth 100000 in
theorem a_laxity_1 (l : Launch) (hl0 : l.stackTraces = false) (dC : Nat → ClassId) (dI : Nat → Nat → Nat) (cI cZ : ClassId) (h : Nat) (a : Nat → Nat) (qph : AR) (qgr : AR) (qne : AR) (qap : AR) (qle : AR) (qfu : AR) (qpc : Int32) (qgd : Int32) (qri : Int32) (qnw : Int32) (qtk : Int32) (qsv : Int32) (qwa : AR) (qgi : AR) (qlo : AR) (qtu : AR) (n : Nat) (i1 i2 i3 i4 : Int32) (hpc : qpc = nI n) (hn : n ≤ 8) (hT : (X0_laxity_T qne qpc n i1) = 1) : Lk l yL_act wsL_act rmxL_act dC dI cI cZ [.ref h, .int 11, .int i1, .int i2, .int i3, .int i4] (xW cI cZ h a qph qgr qne qap qle qfu qpc qgd qri qnw qtk qsv qwa qgi qlo qtu) (-70011) (fun w2 => w2 = (xW cI cZ h a qph qgr qne qap qle qfu qpc qgd qri qnw qtk qsv qwa qgi qlo qtu)) 1 6 := by
  refine lk_enterH (cc := cL_act) (maxL := 7) (by decide) rfl (Nat.le_of_ble_eq_true rfl) ?_
  intro p e s m args below meth c A ls Q hC htab hK hNs hZ hP hD hS hA hl hret
  obtain ⟨hx, hb, hml, hown, hts⟩ := id hC
  have hl : lv_has ls 7 [(0, .ref h), (1, .int 11), (2, .int i1), (3, .int i2), (4, .int i3), (5, .int i4)] := hl
  refine lv_iload_n hx hb dL_act_0 rfl (lv_at hl 1 rfl) ?_
  refine lv_if_ne (tgt := 13) hx hb dL_act_1 (by decide) (fun _ => ?_) (fun c => absurd c (by decide))
  refine lv_iload_n hx hb dL_act_13 rfl (lv_at hl 1 rfl) ?_
  refine lv_iconst (v := 1) hx hb dL_act_14 (by decide) ?_
  refine lv_icmp_ne (tgt := 27) hx hb dL_act_15 (by decide) (fun _ => ?_) (fun c => absurd c (by decide))
  refine lv_iload_n hx hb dL_act_27 rfl (lv_at hl 1 rfl) ?_
  refine lv_iconst (v := 2) hx hb dL_act_28 (by decide) ?_
  refine lv_icmp_ne (tgt := 40) hx hb dL_act_29 (by decide) (fun _ => ?_) (fun c => absurd c (by decide))
  refine lv_iload_n hx hb dL_act_40 rfl (lv_at hl 1 rfl) ?_
  refine lv_iconst (v := 3) hx hb dL_act_41 (by decide) ?_
  refine lv_icmp_ne (tgt := 53) hx hb dL_act_42 (by decide) (fun _ => ?_) (fun c => absurd c (by decide))
  refine lv_iload_n hx hb dL_act_53 rfl (lv_at hl 1 rfl) ?_
  refine lv_iconst (v := 4) hx hb dL_act_54 (by decide) ?_
  refine lv_icmp_ne (tgt := 71) hx hb dL_act_55 (by decide) (fun _ => ?_) (fun c => absurd c (by decide))
  refine lv_iload_n hx hb dL_act_71 rfl (lv_at hl 1 rfl) ?_
  refine lv_iconst (v := 5) hx hb dL_act_72 (by decide) ?_
  refine lv_icmp_ne (tgt := 84) hx hb dL_act_73 (by decide) (fun _ => ?_) (fun c => absurd c (by decide))
  refine lv_iload_n hx hb dL_act_84 rfl (lv_at hl 1 rfl) ?_
  refine lv_bipush (v := 6) hx hb dL_act_85 (by decide) ?_
  refine lv_icmp_ne (tgt := 99) hx hb dL_act_87 (by decide) (fun _ => ?_) (fun c => absurd c (by decide))
  refine lv_iload_n hx hb dL_act_99 rfl (lv_at hl 1 rfl) ?_
  refine lv_bipush (v := 7) hx hb dL_act_100 (by decide) ?_
  refine lv_icmp_ne (tgt := 114) hx hb dL_act_102 (by decide) (fun _ => ?_) (fun c => absurd c (by decide))
  refine lv_iload_n hx hb dL_act_114 rfl (lv_at hl 1 rfl) ?_
  refine lv_bipush (v := 8) hx hb dL_act_115 (by decide) ?_
  refine lv_icmp_ne (tgt := 128) hx hb dL_act_117 (by decide) (fun _ => ?_) (fun c => absurd c (by decide))
  refine lv_iload_n hx hb dL_act_128 rfl (lv_at hl 1 rfl) ?_
  refine lv_bipush (v := 9) hx hb dL_act_129 (by decide) ?_
  refine lv_icmp_ne (tgt := 142) hx hb dL_act_131 (by decide) (fun _ => ?_) (fun c => absurd c (by decide))
  refine lv_iload_n hx hb dL_act_142 rfl (lv_at hl 1 rfl) ?_
  refine lv_bipush (v := 10) hx hb dL_act_143 (by decide) ?_
  refine lv_icmp_ne (tgt := 156) hx hb dL_act_145 (by decide) (fun _ => ?_) (fun c => absurd c (by decide))
  refine lv_iload_n hx hb dL_act_156 rfl (lv_at hl 1 rfl) ?_
  refine lv_bipush (v := 11) hx hb dL_act_157 (by decide) ?_
  refine lv_icmp_ne (tgt := 170) hx hb dL_act_159 (by decide) (fun c => absurd (by decide) c) (fun _ => ?_)
  refine lv_aload_n hx hb dL_act_162 rfl (lv_at hl 0 rfl) ?_
  refine lv_iload_n hx hb dL_act_163 rfl (lv_at hl 2 rfl) ?_
  refine kx_callV (rest := []) (q0 := 0) hC (cx_X0_laxity l hl0 dC dI cI cZ h a qph qgr qne qap qle qfu qpc qgd qri qnw qtk qsv qwa qgi qlo qtu n i1 hpc hn (by rw [hT]; decide)) (cwV 1 hts gL_act_X0_laxity rfl rfl rfl hd_X0_laxity ⟨Nat.le_of_ble_eq_true rfl, Nat.le_of_ble_eq_true rfl⟩) hK hNs hZ hP hD hS hA rfl rfl rfl hl.1 (Nat.le_of_ble_eq_true rfl) dL_act_164 rfl ⟨Nat.le_of_ble_eq_true rfl, Nat.le_of_ble_eq_true rfl⟩ (fun E ce q H locs hex hP hD hS hcell hv hcl => ?_)
  rcases hex with ⟨hT2, rfl⟩ | ⟨hT2, rfl⟩
  · refine vx_catch (name := nIO) hown [] ⟨0, 217, 218, 60⟩ [⟨0, 217, 223, 63⟩, ⟨0, 217, 228, 66⟩] (by rw [htab]; rfl) (fun z hz => nomatch hz) (by decide) (by decide) (hts (.classLink RL 60 nIO) (by decide +kernel)) (va_Nw.use rfl hNs.2.1.2.2) hcell hv hcl ?_
    refine lv_astore (lv' := [(6, .ref q), (0, .ref h), (1, .int 11), (2, .int i1), (3, .int i2), (4, .int i3), (5, .int i4)]) hx hb dL_act_218 hl (by decide) rfl (fun ls hl => ?_)
    refine lv_ldc (v := -70011) hx hb hown (hts (.constant RL 62 (-70011)) (by decide +kernel)) dL_act_220 ?_
    exact hret H locs _ 222 ls _ rfl hS hP hD rfl dL_act_222
  · exact absurd (hT.symm.trans hT2) (by decide)
set_option maxHeartbeats 4000000 in
set_option maxRecDepth 100000 in
theorem a_laxity_2 (l : Launch) (hl0 : l.stackTraces = false) (dC : Nat → ClassId) (dI : Nat → Nat → Nat) (cI cZ : ClassId) (h : Nat) (a : Nat → Nat) (qph : AR) (qgr : AR) (qne : AR) (qap : AR) (qle : AR) (qfu : AR) (qpc : Int32) (qgd : Int32) (qri : Int32) (qnw : Int32) (qtk : Int32) (qsv : Int32) (qwa : AR) (qgi : AR) (qlo : AR) (qtu : AR) (n : Nat) (i1 i2 i3 i4 : Int32) (hpc : qpc = nI n) (hn : n ≤ 8) (hT : (X0_laxity_T qne qpc n i1) = 2) : Lk l yL_act wsL_act rmxL_act dC dI cI cZ [.ref h, .int 11, .int i1, .int i2, .int i3, .int i4] (xW cI cZ h a qph qgr qne qap qle qfu qpc qgd qri qnw qtk qsv qwa qgi qlo qtu) (-70013) (fun w2 => w2 = (xW cI cZ h a qph qgr qne qap qle qfu qpc qgd qri qnw qtk qsv qwa qgi qlo qtu)) 1 6 := by
  refine lk_enterH (cc := cL_act) (maxL := 7) (by decide) rfl (Nat.le_of_ble_eq_true rfl) ?_
  intro p e s m args below meth c A ls Q hC htab hK hNs hZ hP hD hS hA hl hret
  obtain ⟨hx, hb, hml, hown, hts⟩ := id hC
  have hl : lv_has ls 7 [(0, .ref h), (1, .int 11), (2, .int i1), (3, .int i2), (4, .int i3), (5, .int i4)] := hl
  refine lv_iload_n hx hb dL_act_0 rfl (lv_at hl 1 rfl) ?_
  refine lv_if_ne (tgt := 13) hx hb dL_act_1 (by decide) (fun _ => ?_) (fun c => absurd c (by decide))
  refine lv_iload_n hx hb dL_act_13 rfl (lv_at hl 1 rfl) ?_
  refine lv_iconst (v := 1) hx hb dL_act_14 (by decide) ?_
  refine lv_icmp_ne (tgt := 27) hx hb dL_act_15 (by decide) (fun _ => ?_) (fun c => absurd c (by decide))
  refine lv_iload_n hx hb dL_act_27 rfl (lv_at hl 1 rfl) ?_
  refine lv_iconst (v := 2) hx hb dL_act_28 (by decide) ?_
  refine lv_icmp_ne (tgt := 40) hx hb dL_act_29 (by decide) (fun _ => ?_) (fun c => absurd c (by decide))
  refine lv_iload_n hx hb dL_act_40 rfl (lv_at hl 1 rfl) ?_
  refine lv_iconst (v := 3) hx hb dL_act_41 (by decide) ?_
  refine lv_icmp_ne (tgt := 53) hx hb dL_act_42 (by decide) (fun _ => ?_) (fun c => absurd c (by decide))
  refine lv_iload_n hx hb dL_act_53 rfl (lv_at hl 1 rfl) ?_
  refine lv_iconst (v := 4) hx hb dL_act_54 (by decide) ?_
  refine lv_icmp_ne (tgt := 71) hx hb dL_act_55 (by decide) (fun _ => ?_) (fun c => absurd c (by decide))
  refine lv_iload_n hx hb dL_act_71 rfl (lv_at hl 1 rfl) ?_
  refine lv_iconst (v := 5) hx hb dL_act_72 (by decide) ?_
  refine lv_icmp_ne (tgt := 84) hx hb dL_act_73 (by decide) (fun _ => ?_) (fun c => absurd c (by decide))
  refine lv_iload_n hx hb dL_act_84 rfl (lv_at hl 1 rfl) ?_
  refine lv_bipush (v := 6) hx hb dL_act_85 (by decide) ?_
  refine lv_icmp_ne (tgt := 99) hx hb dL_act_87 (by decide) (fun _ => ?_) (fun c => absurd c (by decide))
  refine lv_iload_n hx hb dL_act_99 rfl (lv_at hl 1 rfl) ?_
  refine lv_bipush (v := 7) hx hb dL_act_100 (by decide) ?_
  refine lv_icmp_ne (tgt := 114) hx hb dL_act_102 (by decide) (fun _ => ?_) (fun c => absurd c (by decide))
  refine lv_iload_n hx hb dL_act_114 rfl (lv_at hl 1 rfl) ?_
  refine lv_bipush (v := 8) hx hb dL_act_115 (by decide) ?_
  refine lv_icmp_ne (tgt := 128) hx hb dL_act_117 (by decide) (fun _ => ?_) (fun c => absurd c (by decide))
  refine lv_iload_n hx hb dL_act_128 rfl (lv_at hl 1 rfl) ?_
  refine lv_bipush (v := 9) hx hb dL_act_129 (by decide) ?_
  refine lv_icmp_ne (tgt := 142) hx hb dL_act_131 (by decide) (fun _ => ?_) (fun c => absurd c (by decide))
  refine lv_iload_n hx hb dL_act_142 rfl (lv_at hl 1 rfl) ?_
  refine lv_bipush (v := 10) hx hb dL_act_143 (by decide) ?_
  refine lv_icmp_ne (tgt := 156) hx hb dL_act_145 (by decide) (fun _ => ?_) (fun c => absurd c (by decide))
  refine lv_iload_n hx hb dL_act_156 rfl (lv_at hl 1 rfl) ?_
  refine lv_bipush (v := 11) hx hb dL_act_157 (by decide) ?_
  refine lv_icmp_ne (tgt := 170) hx hb dL_act_159 (by decide) (fun c => absurd (by decide) c) (fun _ => ?_)
  refine lv_aload_n hx hb dL_act_162 rfl (lv_at hl 0 rfl) ?_
  refine lv_iload_n hx hb dL_act_163 rfl (lv_at hl 2 rfl) ?_
  refine kx_callV (rest := []) (q0 := 0) hC (cx_X0_laxity l hl0 dC dI cI cZ h a qph qgr qne qap qle qfu qpc qgd qri qnw qtk qsv qwa qgi qlo qtu n i1 hpc hn (by rw [hT]; decide)) (cwV 1 hts gL_act_X0_laxity rfl rfl rfl hd_X0_laxity ⟨Nat.le_of_ble_eq_true rfl, Nat.le_of_ble_eq_true rfl⟩) hK hNs hZ hP hD hS hA rfl rfl rfl hl.1 (Nat.le_of_ble_eq_true rfl) dL_act_164 rfl ⟨Nat.le_of_ble_eq_true rfl, Nat.le_of_ble_eq_true rfl⟩ (fun E ce q H locs hex hP hD hS hcell hv hcl => ?_)
  rcases hex with ⟨hT2, rfl⟩ | ⟨hT2, rfl⟩
  · exact absurd (hT.symm.trans hT2) (by decide)
  · refine vx_catch (name := nIS) hown [⟨0, 217, 218, 60⟩, ⟨0, 217, 223, 63⟩] ⟨0, 217, 228, 66⟩ [] (by rw [htab]; rfl) (fun z hz => by
        rcases List.mem_cons.mp hz with rfl | hz
        · exact Or.inr ⟨by decide, nIO, hts (.classLink RL 60 nIO) (by decide +kernel), hNs.2.2.1.2.1⟩
        · rcases List.mem_singleton.mp hz with rfl
          exact Or.inr ⟨by decide, nIA, hts (.classLink RL 63 nIA) (by decide +kernel), hNs.2.2.1.2.2⟩) (by decide) (by decide) (hts (.classLink RL 66 nIS) (by decide +kernel)) (va_Nw.use rfl hNs.2.1.2.1) hcell hv hcl ?_
    refine lv_astore (lv' := [(6, .ref q), (0, .ref h), (1, .int 11), (2, .int i1), (3, .int i2), (4, .int i3), (5, .int i4)]) hx hb dL_act_228 hl (by decide) rfl (fun ls hl => ?_)
    refine lv_ldc (v := -70013) hx hb hown (hts (.constant RL 68 (-70013)) (by decide +kernel)) dL_act_230 ?_
    exact hret H locs _ 232 ls _ rfl hS hP hD rfl dL_act_232
set_option maxHeartbeats 4000000 in
set_option maxRecDepth 100000 in
theorem a_reach (l : Launch) (dC : Nat → ClassId) (dI : Nat → Nat → Nat) (cI cZ : ClassId) (h : Nat) (a : Nat → Nat) (qph : AR) (qgr : AR) (qne : AR) (qap : AR) (qle : AR) (qfu : AR) (qpc : Int32) (qgd : Int32) (qri : Int32) (qnw : Int32) (qtk : Int32) (qsv : Int32) (qwa : AR) (qgi : AR) (qlo : AR) (qtu : AR) (n : Nat) (i1 i2 i3 i4 : Int32) (hpc : qpc = nI n) (hn : n ≤ 8) (hok : (X0_reach_T qpc n i1) = 0) : Lk l yL_act wsL_act rmL_act dC dI cI cZ [.ref h, .int 12, .int i1, .int i2, .int i3, .int i4] (xW cI cZ h a qph qgr qne qap qle qfu qpc qgd qri qnw qtk qsv qwa qgi qlo qtu) (X0_reach qph qgr qne qap qle qpc qnw n i1) (fun w2 => w2 = (xW cI cZ h a qph qgr qne qap qle qfu qpc qgd qri qnw qtk qsv qwa qgi qlo qtu)) 0 0 := by
  refine lk_enterH (cc := cL_act) (maxL := 7) (by decide) rfl (Nat.le_of_ble_eq_true rfl) ?_
  intro p e s m args below meth c A ls Q hC htab hK hNs hZ hP hD hS hA hl hret
  obtain ⟨hx, hb, hml, hown, hts⟩ := id hC
  have hl : lv_has ls 7 [(0, .ref h), (1, .int 12), (2, .int i1), (3, .int i2), (4, .int i3), (5, .int i4)] := hl
  refine lv_iload_n hx hb dL_act_0 rfl (lv_at hl 1 rfl) ?_
  refine lv_if_ne (tgt := 13) hx hb dL_act_1 (by decide) (fun _ => ?_) (fun c => absurd c (by decide))
  refine lv_iload_n hx hb dL_act_13 rfl (lv_at hl 1 rfl) ?_
  refine lv_iconst (v := 1) hx hb dL_act_14 (by decide) ?_
  refine lv_icmp_ne (tgt := 27) hx hb dL_act_15 (by decide) (fun _ => ?_) (fun c => absurd c (by decide))
  refine lv_iload_n hx hb dL_act_27 rfl (lv_at hl 1 rfl) ?_
  refine lv_iconst (v := 2) hx hb dL_act_28 (by decide) ?_
  refine lv_icmp_ne (tgt := 40) hx hb dL_act_29 (by decide) (fun _ => ?_) (fun c => absurd c (by decide))
  refine lv_iload_n hx hb dL_act_40 rfl (lv_at hl 1 rfl) ?_
  refine lv_iconst (v := 3) hx hb dL_act_41 (by decide) ?_
  refine lv_icmp_ne (tgt := 53) hx hb dL_act_42 (by decide) (fun _ => ?_) (fun c => absurd c (by decide))
  refine lv_iload_n hx hb dL_act_53 rfl (lv_at hl 1 rfl) ?_
  refine lv_iconst (v := 4) hx hb dL_act_54 (by decide) ?_
  refine lv_icmp_ne (tgt := 71) hx hb dL_act_55 (by decide) (fun _ => ?_) (fun c => absurd c (by decide))
  refine lv_iload_n hx hb dL_act_71 rfl (lv_at hl 1 rfl) ?_
  refine lv_iconst (v := 5) hx hb dL_act_72 (by decide) ?_
  refine lv_icmp_ne (tgt := 84) hx hb dL_act_73 (by decide) (fun _ => ?_) (fun c => absurd c (by decide))
  refine lv_iload_n hx hb dL_act_84 rfl (lv_at hl 1 rfl) ?_
  refine lv_bipush (v := 6) hx hb dL_act_85 (by decide) ?_
  refine lv_icmp_ne (tgt := 99) hx hb dL_act_87 (by decide) (fun _ => ?_) (fun c => absurd c (by decide))
  refine lv_iload_n hx hb dL_act_99 rfl (lv_at hl 1 rfl) ?_
  refine lv_bipush (v := 7) hx hb dL_act_100 (by decide) ?_
  refine lv_icmp_ne (tgt := 114) hx hb dL_act_102 (by decide) (fun _ => ?_) (fun c => absurd c (by decide))
  refine lv_iload_n hx hb dL_act_114 rfl (lv_at hl 1 rfl) ?_
  refine lv_bipush (v := 8) hx hb dL_act_115 (by decide) ?_
  refine lv_icmp_ne (tgt := 128) hx hb dL_act_117 (by decide) (fun _ => ?_) (fun c => absurd c (by decide))
  refine lv_iload_n hx hb dL_act_128 rfl (lv_at hl 1 rfl) ?_
  refine lv_bipush (v := 9) hx hb dL_act_129 (by decide) ?_
  refine lv_icmp_ne (tgt := 142) hx hb dL_act_131 (by decide) (fun _ => ?_) (fun c => absurd c (by decide))
  refine lv_iload_n hx hb dL_act_142 rfl (lv_at hl 1 rfl) ?_
  refine lv_bipush (v := 10) hx hb dL_act_143 (by decide) ?_
  refine lv_icmp_ne (tgt := 156) hx hb dL_act_145 (by decide) (fun _ => ?_) (fun c => absurd c (by decide))
  refine lv_iload_n hx hb dL_act_156 rfl (lv_at hl 1 rfl) ?_
  refine lv_bipush (v := 11) hx hb dL_act_157 (by decide) ?_
  refine lv_icmp_ne (tgt := 170) hx hb dL_act_159 (by decide) (fun _ => ?_) (fun c => absurd c (by decide))
  refine lv_iload_n hx hb dL_act_170 rfl (lv_at hl 1 rfl) ?_
  refine lv_bipush (v := 12) hx hb dL_act_171 (by decide) ?_
  refine lv_icmp_ne (tgt := 184) hx hb dL_act_173 (by decide) (fun c => absurd (by decide) c) (fun _ => ?_)
  refine lv_aload_n hx hb dL_act_176 rfl (lv_at hl 0 rfl) ?_
  refine lv_iload_n hx hb dL_act_177 rfl (lv_at hl 2 rfl) ?_
  refine k_calli (rest := []) (q0 := 0) hC (c_X0_reach l dC dI cI cZ h a qph qgr qne qap qle qfu qpc qgd qri qnw qtk qsv qwa qgi qlo qtu n i1 hpc hn hok) (cwV 1 hts gL_act_X0_reach rfl rfl rfl hd_X0_reach ⟨Nat.le_of_ble_eq_true rfl, Nat.le_of_ble_eq_true rfl⟩) hK hP hD hS hA rfl rfl rfl hl.1 (Nat.le_of_ble_eq_true rfl) dL_act_178 rfl ⟨Nat.zero_le _, Nat.zero_le _⟩ (fun H locs hP hD hS => ?_)
  refine lv_goto (tgt := 217) hx hb dL_act_181 (by decide) ?_
  exact hret H locs _ 217 ls _ rfl hS hP hD rfl dL_act_217
set_option maxHeartbeats 4000000 in
set_option maxRecDepth 100000 in
theorem a_reach_1 (l : Launch) (hl0 : l.stackTraces = false) (dC : Nat → ClassId) (dI : Nat → Nat → Nat) (cI cZ : ClassId) (h : Nat) (a : Nat → Nat) (qph : AR) (qgr : AR) (qne : AR) (qap : AR) (qle : AR) (qfu : AR) (qpc : Int32) (qgd : Int32) (qri : Int32) (qnw : Int32) (qtk : Int32) (qsv : Int32) (qwa : AR) (qgi : AR) (qlo : AR) (qtu : AR) (n : Nat) (i1 i2 i3 i4 : Int32) (hpc : qpc = nI n) (hn : n ≤ 8) (hT : (X0_reach_T qpc n i1) = 1) : Lk l yL_act wsL_act rmxL_act dC dI cI cZ [.ref h, .int 12, .int i1, .int i2, .int i3, .int i4] (xW cI cZ h a qph qgr qne qap qle qfu qpc qgd qri qnw qtk qsv qwa qgi qlo qtu) (-70011) (fun w2 => w2 = (xW cI cZ h a qph qgr qne qap qle qfu qpc qgd qri qnw qtk qsv qwa qgi qlo qtu)) 1 6 := by
  refine lk_enterH (cc := cL_act) (maxL := 7) (by decide) rfl (Nat.le_of_ble_eq_true rfl) ?_
  intro p e s m args below meth c A ls Q hC htab hK hNs hZ hP hD hS hA hl hret
  obtain ⟨hx, hb, hml, hown, hts⟩ := id hC
  have hl : lv_has ls 7 [(0, .ref h), (1, .int 12), (2, .int i1), (3, .int i2), (4, .int i3), (5, .int i4)] := hl
  refine lv_iload_n hx hb dL_act_0 rfl (lv_at hl 1 rfl) ?_
  refine lv_if_ne (tgt := 13) hx hb dL_act_1 (by decide) (fun _ => ?_) (fun c => absurd c (by decide))
  refine lv_iload_n hx hb dL_act_13 rfl (lv_at hl 1 rfl) ?_
  refine lv_iconst (v := 1) hx hb dL_act_14 (by decide) ?_
  refine lv_icmp_ne (tgt := 27) hx hb dL_act_15 (by decide) (fun _ => ?_) (fun c => absurd c (by decide))
  refine lv_iload_n hx hb dL_act_27 rfl (lv_at hl 1 rfl) ?_
  refine lv_iconst (v := 2) hx hb dL_act_28 (by decide) ?_
  refine lv_icmp_ne (tgt := 40) hx hb dL_act_29 (by decide) (fun _ => ?_) (fun c => absurd c (by decide))
  refine lv_iload_n hx hb dL_act_40 rfl (lv_at hl 1 rfl) ?_
  refine lv_iconst (v := 3) hx hb dL_act_41 (by decide) ?_
  refine lv_icmp_ne (tgt := 53) hx hb dL_act_42 (by decide) (fun _ => ?_) (fun c => absurd c (by decide))
  refine lv_iload_n hx hb dL_act_53 rfl (lv_at hl 1 rfl) ?_
  refine lv_iconst (v := 4) hx hb dL_act_54 (by decide) ?_
  refine lv_icmp_ne (tgt := 71) hx hb dL_act_55 (by decide) (fun _ => ?_) (fun c => absurd c (by decide))
  refine lv_iload_n hx hb dL_act_71 rfl (lv_at hl 1 rfl) ?_
  refine lv_iconst (v := 5) hx hb dL_act_72 (by decide) ?_
  refine lv_icmp_ne (tgt := 84) hx hb dL_act_73 (by decide) (fun _ => ?_) (fun c => absurd c (by decide))
  refine lv_iload_n hx hb dL_act_84 rfl (lv_at hl 1 rfl) ?_
  refine lv_bipush (v := 6) hx hb dL_act_85 (by decide) ?_
  refine lv_icmp_ne (tgt := 99) hx hb dL_act_87 (by decide) (fun _ => ?_) (fun c => absurd c (by decide))
  refine lv_iload_n hx hb dL_act_99 rfl (lv_at hl 1 rfl) ?_
  refine lv_bipush (v := 7) hx hb dL_act_100 (by decide) ?_
  refine lv_icmp_ne (tgt := 114) hx hb dL_act_102 (by decide) (fun _ => ?_) (fun c => absurd c (by decide))
  refine lv_iload_n hx hb dL_act_114 rfl (lv_at hl 1 rfl) ?_
  refine lv_bipush (v := 8) hx hb dL_act_115 (by decide) ?_
  refine lv_icmp_ne (tgt := 128) hx hb dL_act_117 (by decide) (fun _ => ?_) (fun c => absurd c (by decide))
  refine lv_iload_n hx hb dL_act_128 rfl (lv_at hl 1 rfl) ?_
  refine lv_bipush (v := 9) hx hb dL_act_129 (by decide) ?_
  refine lv_icmp_ne (tgt := 142) hx hb dL_act_131 (by decide) (fun _ => ?_) (fun c => absurd c (by decide))
  refine lv_iload_n hx hb dL_act_142 rfl (lv_at hl 1 rfl) ?_
  refine lv_bipush (v := 10) hx hb dL_act_143 (by decide) ?_
  refine lv_icmp_ne (tgt := 156) hx hb dL_act_145 (by decide) (fun _ => ?_) (fun c => absurd c (by decide))
  refine lv_iload_n hx hb dL_act_156 rfl (lv_at hl 1 rfl) ?_
  refine lv_bipush (v := 11) hx hb dL_act_157 (by decide) ?_
  refine lv_icmp_ne (tgt := 170) hx hb dL_act_159 (by decide) (fun _ => ?_) (fun c => absurd c (by decide))
  refine lv_iload_n hx hb dL_act_170 rfl (lv_at hl 1 rfl) ?_
  refine lv_bipush (v := 12) hx hb dL_act_171 (by decide) ?_
  refine lv_icmp_ne (tgt := 184) hx hb dL_act_173 (by decide) (fun c => absurd (by decide) c) (fun _ => ?_)
  refine lv_aload_n hx hb dL_act_176 rfl (lv_at hl 0 rfl) ?_
  refine lv_iload_n hx hb dL_act_177 rfl (lv_at hl 2 rfl) ?_
  refine kx_callV (rest := []) (q0 := 0) hC (cx_X0_reach l hl0 dC dI cI cZ h a qph qgr qne qap qle qfu qpc qgd qri qnw qtk qsv qwa qgi qlo qtu n i1 hpc hn (by rw [hT]; decide)) (cwV 1 hts gL_act_X0_reach rfl rfl rfl hd_X0_reach ⟨Nat.le_of_ble_eq_true rfl, Nat.le_of_ble_eq_true rfl⟩) hK hNs hZ hP hD hS hA rfl rfl rfl hl.1 (Nat.le_of_ble_eq_true rfl) dL_act_178 rfl ⟨Nat.le_of_ble_eq_true rfl, Nat.le_of_ble_eq_true rfl⟩ (fun E ce q H locs hex hP hD hS hcell hv hcl => ?_)
  obtain ⟨hT2, rfl⟩ := hex
  refine vx_catch (name := nIO) hown [] ⟨0, 217, 218, 60⟩ [⟨0, 217, 223, 63⟩, ⟨0, 217, 228, 66⟩] (by rw [htab]; rfl) (fun z hz => nomatch hz) (by decide) (by decide) (hts (.classLink RL 60 nIO) (by decide +kernel)) (va_Nw.use rfl hNs.2.1.2.2) hcell hv hcl ?_
  refine lv_astore (lv' := [(6, .ref q), (0, .ref h), (1, .int 12), (2, .int i1), (3, .int i2), (4, .int i3), (5, .int i4)]) hx hb dL_act_218 hl (by decide) rfl (fun ls hl => ?_)
  refine lv_ldc (v := -70011) hx hb hown (hts (.constant RL 62 (-70011)) (by decide +kernel)) dL_act_220 ?_
  exact hret H locs _ 222 ls _ rfl hS hP hD rfl dL_act_222
set_option maxHeartbeats 4000000 in
set_option maxRecDepth 100000 in
theorem a_current (l : Launch) (dC : Nat → ClassId) (dI : Nat → Nat → Nat) (cI cZ : ClassId) (h : Nat) (a : Nat → Nat) (qph : AR) (qgr : AR) (qne : AR) (qap : AR) (qle : AR) (qfu : AR) (qpc : Int32) (qgd : Int32) (qri : Int32) (qnw : Int32) (qtk : Int32) (qsv : Int32) (qwa : AR) (qgi : AR) (qlo : AR) (qtu : AR) (n : Nat) (i1 i2 i3 i4 : Int32) (hpc : qpc = nI n) (hn : n ≤ 8) (hok : (X0_current_T qpc n i1) = 0) : Lk l yL_act wsL_act rmL_act dC dI cI cZ [.ref h, .int 13, .int i1, .int i2, .int i3, .int i4] (xW cI cZ h a qph qgr qne qap qle qfu qpc qgd qri qnw qtk qsv qwa qgi qlo qtu) ((X0_current qph qgr qne qap qle qfu qpc qgd qri qnw qwa qgi qlo qtu n i1).1) (fun w2 => w2 = (xW cI cZ h a qph qgr qne qap qle qfu qpc qgd qri qnw qtk qsv ((X0_current qph qgr qne qap qle qfu qpc qgd qri qnw qwa qgi qlo qtu n i1).2.1) ((X0_current qph qgr qne qap qle qfu qpc qgd qri qnw qwa qgi qlo qtu n i1).2.2.1) ((X0_current qph qgr qne qap qle qfu qpc qgd qri qnw qwa qgi qlo qtu n i1).2.2.2.1) ((X0_current qph qgr qne qap qle qfu qpc qgd qri qnw qwa qgi qlo qtu n i1).2.2.2.2))) 0 0 := by
  refine lk_enterH (cc := cL_act) (maxL := 7) (by decide) rfl (Nat.le_of_ble_eq_true rfl) ?_
  intro p e s m args below meth c A ls Q hC htab hK hNs hZ hP hD hS hA hl hret
  obtain ⟨hx, hb, hml, hown, hts⟩ := id hC
  have hl : lv_has ls 7 [(0, .ref h), (1, .int 13), (2, .int i1), (3, .int i2), (4, .int i3), (5, .int i4)] := hl
  refine lv_iload_n hx hb dL_act_0 rfl (lv_at hl 1 rfl) ?_
  refine lv_if_ne (tgt := 13) hx hb dL_act_1 (by decide) (fun _ => ?_) (fun c => absurd c (by decide))
  refine lv_iload_n hx hb dL_act_13 rfl (lv_at hl 1 rfl) ?_
  refine lv_iconst (v := 1) hx hb dL_act_14 (by decide) ?_
  refine lv_icmp_ne (tgt := 27) hx hb dL_act_15 (by decide) (fun _ => ?_) (fun c => absurd c (by decide))
  refine lv_iload_n hx hb dL_act_27 rfl (lv_at hl 1 rfl) ?_
  refine lv_iconst (v := 2) hx hb dL_act_28 (by decide) ?_
  refine lv_icmp_ne (tgt := 40) hx hb dL_act_29 (by decide) (fun _ => ?_) (fun c => absurd c (by decide))
  refine lv_iload_n hx hb dL_act_40 rfl (lv_at hl 1 rfl) ?_
  refine lv_iconst (v := 3) hx hb dL_act_41 (by decide) ?_
  refine lv_icmp_ne (tgt := 53) hx hb dL_act_42 (by decide) (fun _ => ?_) (fun c => absurd c (by decide))
  refine lv_iload_n hx hb dL_act_53 rfl (lv_at hl 1 rfl) ?_
  refine lv_iconst (v := 4) hx hb dL_act_54 (by decide) ?_
  refine lv_icmp_ne (tgt := 71) hx hb dL_act_55 (by decide) (fun _ => ?_) (fun c => absurd c (by decide))
  refine lv_iload_n hx hb dL_act_71 rfl (lv_at hl 1 rfl) ?_
  refine lv_iconst (v := 5) hx hb dL_act_72 (by decide) ?_
  refine lv_icmp_ne (tgt := 84) hx hb dL_act_73 (by decide) (fun _ => ?_) (fun c => absurd c (by decide))
  refine lv_iload_n hx hb dL_act_84 rfl (lv_at hl 1 rfl) ?_
  refine lv_bipush (v := 6) hx hb dL_act_85 (by decide) ?_
  refine lv_icmp_ne (tgt := 99) hx hb dL_act_87 (by decide) (fun _ => ?_) (fun c => absurd c (by decide))
  refine lv_iload_n hx hb dL_act_99 rfl (lv_at hl 1 rfl) ?_
  refine lv_bipush (v := 7) hx hb dL_act_100 (by decide) ?_
  refine lv_icmp_ne (tgt := 114) hx hb dL_act_102 (by decide) (fun _ => ?_) (fun c => absurd c (by decide))
  refine lv_iload_n hx hb dL_act_114 rfl (lv_at hl 1 rfl) ?_
  refine lv_bipush (v := 8) hx hb dL_act_115 (by decide) ?_
  refine lv_icmp_ne (tgt := 128) hx hb dL_act_117 (by decide) (fun _ => ?_) (fun c => absurd c (by decide))
  refine lv_iload_n hx hb dL_act_128 rfl (lv_at hl 1 rfl) ?_
  refine lv_bipush (v := 9) hx hb dL_act_129 (by decide) ?_
  refine lv_icmp_ne (tgt := 142) hx hb dL_act_131 (by decide) (fun _ => ?_) (fun c => absurd c (by decide))
  refine lv_iload_n hx hb dL_act_142 rfl (lv_at hl 1 rfl) ?_
  refine lv_bipush (v := 10) hx hb dL_act_143 (by decide) ?_
  refine lv_icmp_ne (tgt := 156) hx hb dL_act_145 (by decide) (fun _ => ?_) (fun c => absurd c (by decide))
  refine lv_iload_n hx hb dL_act_156 rfl (lv_at hl 1 rfl) ?_
  refine lv_bipush (v := 11) hx hb dL_act_157 (by decide) ?_
  refine lv_icmp_ne (tgt := 170) hx hb dL_act_159 (by decide) (fun _ => ?_) (fun c => absurd c (by decide))
  refine lv_iload_n hx hb dL_act_170 rfl (lv_at hl 1 rfl) ?_
  refine lv_bipush (v := 12) hx hb dL_act_171 (by decide) ?_
  refine lv_icmp_ne (tgt := 184) hx hb dL_act_173 (by decide) (fun _ => ?_) (fun c => absurd c (by decide))
  refine lv_iload_n hx hb dL_act_184 rfl (lv_at hl 1 rfl) ?_
  refine lv_bipush (v := 13) hx hb dL_act_185 (by decide) ?_
  refine lv_icmp_ne (tgt := 198) hx hb dL_act_187 (by decide) (fun c => absurd (by decide) c) (fun _ => ?_)
  refine lv_aload_n hx hb dL_act_190 rfl (lv_at hl 0 rfl) ?_
  refine lv_iload_n hx hb dL_act_191 rfl (lv_at hl 2 rfl) ?_
  refine k_calli (rest := []) (q0 := 0) hC (c_X0_current l dC dI cI cZ h a qph qgr qne qap qle qfu qpc qgd qri qnw qtk qsv qwa qgi qlo qtu n i1 hpc hn hok) (cwV 1 hts gL_act_X0_current rfl rfl rfl hd_X0_current ⟨Nat.le_of_ble_eq_true rfl, Nat.le_of_ble_eq_true rfl⟩) hK hP hD hS hA rfl rfl rfl hl.1 (Nat.le_of_ble_eq_true rfl) dL_act_192 rfl ⟨Nat.zero_le _, Nat.zero_le _⟩ (fun H locs hP hD hS => ?_)
  refine lv_goto (tgt := 217) hx hb dL_act_195 (by decide) ?_
  exact hret H locs _ 217 ls _ rfl hS hP hD rfl dL_act_217
set_option maxHeartbeats 4000000 in
set_option maxRecDepth 100000 in
theorem a_current_1 (l : Launch) (hl0 : l.stackTraces = false) (dC : Nat → ClassId) (dI : Nat → Nat → Nat) (cI cZ : ClassId) (h : Nat) (a : Nat → Nat) (qph : AR) (qgr : AR) (qne : AR) (qap : AR) (qle : AR) (qfu : AR) (qpc : Int32) (qgd : Int32) (qri : Int32) (qnw : Int32) (qtk : Int32) (qsv : Int32) (qwa : AR) (qgi : AR) (qlo : AR) (qtu : AR) (n : Nat) (i1 i2 i3 i4 : Int32) (hpc : qpc = nI n) (hn : n ≤ 8) (hT : (X0_current_T qpc n i1) = 1) : Lk l yL_act wsL_act rmxL_act dC dI cI cZ [.ref h, .int 13, .int i1, .int i2, .int i3, .int i4] (xW cI cZ h a qph qgr qne qap qle qfu qpc qgd qri qnw qtk qsv qwa qgi qlo qtu) (-70011) (fun w2 => w2 = (xW cI cZ h a qph qgr qne qap qle qfu qpc qgd qri qnw qtk qsv qwa qgi qlo qtu)) 1 6 := by
  refine lk_enterH (cc := cL_act) (maxL := 7) (by decide) rfl (Nat.le_of_ble_eq_true rfl) ?_
  intro p e s m args below meth c A ls Q hC htab hK hNs hZ hP hD hS hA hl hret
  obtain ⟨hx, hb, hml, hown, hts⟩ := id hC
  have hl : lv_has ls 7 [(0, .ref h), (1, .int 13), (2, .int i1), (3, .int i2), (4, .int i3), (5, .int i4)] := hl
  refine lv_iload_n hx hb dL_act_0 rfl (lv_at hl 1 rfl) ?_
  refine lv_if_ne (tgt := 13) hx hb dL_act_1 (by decide) (fun _ => ?_) (fun c => absurd c (by decide))
  refine lv_iload_n hx hb dL_act_13 rfl (lv_at hl 1 rfl) ?_
  refine lv_iconst (v := 1) hx hb dL_act_14 (by decide) ?_
  refine lv_icmp_ne (tgt := 27) hx hb dL_act_15 (by decide) (fun _ => ?_) (fun c => absurd c (by decide))
  refine lv_iload_n hx hb dL_act_27 rfl (lv_at hl 1 rfl) ?_
  refine lv_iconst (v := 2) hx hb dL_act_28 (by decide) ?_
  refine lv_icmp_ne (tgt := 40) hx hb dL_act_29 (by decide) (fun _ => ?_) (fun c => absurd c (by decide))
  refine lv_iload_n hx hb dL_act_40 rfl (lv_at hl 1 rfl) ?_
  refine lv_iconst (v := 3) hx hb dL_act_41 (by decide) ?_
  refine lv_icmp_ne (tgt := 53) hx hb dL_act_42 (by decide) (fun _ => ?_) (fun c => absurd c (by decide))
  refine lv_iload_n hx hb dL_act_53 rfl (lv_at hl 1 rfl) ?_
  refine lv_iconst (v := 4) hx hb dL_act_54 (by decide) ?_
  refine lv_icmp_ne (tgt := 71) hx hb dL_act_55 (by decide) (fun _ => ?_) (fun c => absurd c (by decide))
  refine lv_iload_n hx hb dL_act_71 rfl (lv_at hl 1 rfl) ?_
  refine lv_iconst (v := 5) hx hb dL_act_72 (by decide) ?_
  refine lv_icmp_ne (tgt := 84) hx hb dL_act_73 (by decide) (fun _ => ?_) (fun c => absurd c (by decide))
  refine lv_iload_n hx hb dL_act_84 rfl (lv_at hl 1 rfl) ?_
  refine lv_bipush (v := 6) hx hb dL_act_85 (by decide) ?_
  refine lv_icmp_ne (tgt := 99) hx hb dL_act_87 (by decide) (fun _ => ?_) (fun c => absurd c (by decide))
  refine lv_iload_n hx hb dL_act_99 rfl (lv_at hl 1 rfl) ?_
  refine lv_bipush (v := 7) hx hb dL_act_100 (by decide) ?_
  refine lv_icmp_ne (tgt := 114) hx hb dL_act_102 (by decide) (fun _ => ?_) (fun c => absurd c (by decide))
  refine lv_iload_n hx hb dL_act_114 rfl (lv_at hl 1 rfl) ?_
  refine lv_bipush (v := 8) hx hb dL_act_115 (by decide) ?_
  refine lv_icmp_ne (tgt := 128) hx hb dL_act_117 (by decide) (fun _ => ?_) (fun c => absurd c (by decide))
  refine lv_iload_n hx hb dL_act_128 rfl (lv_at hl 1 rfl) ?_
  refine lv_bipush (v := 9) hx hb dL_act_129 (by decide) ?_
  refine lv_icmp_ne (tgt := 142) hx hb dL_act_131 (by decide) (fun _ => ?_) (fun c => absurd c (by decide))
  refine lv_iload_n hx hb dL_act_142 rfl (lv_at hl 1 rfl) ?_
  refine lv_bipush (v := 10) hx hb dL_act_143 (by decide) ?_
  refine lv_icmp_ne (tgt := 156) hx hb dL_act_145 (by decide) (fun _ => ?_) (fun c => absurd c (by decide))
  refine lv_iload_n hx hb dL_act_156 rfl (lv_at hl 1 rfl) ?_
  refine lv_bipush (v := 11) hx hb dL_act_157 (by decide) ?_
  refine lv_icmp_ne (tgt := 170) hx hb dL_act_159 (by decide) (fun _ => ?_) (fun c => absurd c (by decide))
  refine lv_iload_n hx hb dL_act_170 rfl (lv_at hl 1 rfl) ?_
  refine lv_bipush (v := 12) hx hb dL_act_171 (by decide) ?_
  refine lv_icmp_ne (tgt := 184) hx hb dL_act_173 (by decide) (fun _ => ?_) (fun c => absurd c (by decide))
  refine lv_iload_n hx hb dL_act_184 rfl (lv_at hl 1 rfl) ?_
  refine lv_bipush (v := 13) hx hb dL_act_185 (by decide) ?_
  refine lv_icmp_ne (tgt := 198) hx hb dL_act_187 (by decide) (fun c => absurd (by decide) c) (fun _ => ?_)
  refine lv_aload_n hx hb dL_act_190 rfl (lv_at hl 0 rfl) ?_
  refine lv_iload_n hx hb dL_act_191 rfl (lv_at hl 2 rfl) ?_
  refine kx_callV (rest := []) (q0 := 0) hC (cx_X0_current l hl0 dC dI cI cZ h a qph qgr qne qap qle qfu qpc qgd qri qnw qtk qsv qwa qgi qlo qtu n i1 hpc hn (by rw [hT]; decide)) (cwV 1 hts gL_act_X0_current rfl rfl rfl hd_X0_current ⟨Nat.le_of_ble_eq_true rfl, Nat.le_of_ble_eq_true rfl⟩) hK hNs hZ hP hD hS hA rfl rfl rfl hl.1 (Nat.le_of_ble_eq_true rfl) dL_act_192 rfl ⟨Nat.le_of_ble_eq_true rfl, Nat.le_of_ble_eq_true rfl⟩ (fun E ce q H locs hex hP hD hS hcell hv hcl => ?_)
  obtain ⟨hT2, rfl⟩ := hex
  refine vx_catch (name := nIO) hown [] ⟨0, 217, 218, 60⟩ [⟨0, 217, 223, 63⟩, ⟨0, 217, 228, 66⟩] (by rw [htab]; rfl) (fun z hz => nomatch hz) (by decide) (by decide) (hts (.classLink RL 60 nIO) (by decide +kernel)) (va_Nw.use rfl hNs.2.1.2.2) hcell hv hcl ?_
  refine lv_astore (lv' := [(6, .ref q), (0, .ref h), (1, .int 13), (2, .int i1), (3, .int i2), (4, .int i3), (5, .int i4)]) hx hb dL_act_218 hl (by decide) rfl (fun ls hl => ?_)
  refine lv_ldc (v := -70011) hx hb hown (hts (.constant RL 62 (-70011)) (by decide +kernel)) dL_act_220 ?_
  exact hret H locs _ 222 ls _ rfl hS hP hD rfl dL_act_222
set_option maxHeartbeats 4000000 in
set_option maxRecDepth 100000 in
theorem a_load (l : Launch) (dC : Nat → ClassId) (dI : Nat → Nat → Nat) (cI cZ : ClassId) (h : Nat) (a : Nat → Nat) (qph : AR) (qgr : AR) (qne : AR) (qap : AR) (qle : AR) (qfu : AR) (qpc : Int32) (qgd : Int32) (qri : Int32) (qnw : Int32) (qtk : Int32) (qsv : Int32) (qwa : AR) (qgi : AR) (qlo : AR) (qtu : AR) (n : Nat) (i1 i2 i3 i4 : Int32) (hpc : qpc = nI n) (hn : n ≤ 8) (hok : (X0_load_T n i1) = 0) : Lk l yL_act wsL_act rmL_act dC dI cI cZ [.ref h, .int 14, .int i1, .int i2, .int i3, .int i4] (xW cI cZ h a qph qgr qne qap qle qfu qpc qgd qri qnw qtk qsv qwa qgi qlo qtu) ((X0_load qph qgr qne qap qle qfu qgd qri qnw qwa qgi qlo qtu n i1).1) (fun w2 => w2 = (xW cI cZ h a qph qgr qne qap qle qfu qpc qgd qri qnw qtk qsv ((X0_load qph qgr qne qap qle qfu qgd qri qnw qwa qgi qlo qtu n i1).2.1) ((X0_load qph qgr qne qap qle qfu qgd qri qnw qwa qgi qlo qtu n i1).2.2.1) ((X0_load qph qgr qne qap qle qfu qgd qri qnw qwa qgi qlo qtu n i1).2.2.2.1) ((X0_load qph qgr qne qap qle qfu qgd qri qnw qwa qgi qlo qtu n i1).2.2.2.2))) 0 0 := by
  refine lk_enterH (cc := cL_act) (maxL := 7) (by decide) rfl (Nat.le_of_ble_eq_true rfl) ?_
  intro p e s m args below meth c A ls Q hC htab hK hNs hZ hP hD hS hA hl hret
  obtain ⟨hx, hb, hml, hown, hts⟩ := id hC
  have hl : lv_has ls 7 [(0, .ref h), (1, .int 14), (2, .int i1), (3, .int i2), (4, .int i3), (5, .int i4)] := hl
  refine lv_iload_n hx hb dL_act_0 rfl (lv_at hl 1 rfl) ?_
  refine lv_if_ne (tgt := 13) hx hb dL_act_1 (by decide) (fun _ => ?_) (fun c => absurd c (by decide))
  refine lv_iload_n hx hb dL_act_13 rfl (lv_at hl 1 rfl) ?_
  refine lv_iconst (v := 1) hx hb dL_act_14 (by decide) ?_
  refine lv_icmp_ne (tgt := 27) hx hb dL_act_15 (by decide) (fun _ => ?_) (fun c => absurd c (by decide))
  refine lv_iload_n hx hb dL_act_27 rfl (lv_at hl 1 rfl) ?_
  refine lv_iconst (v := 2) hx hb dL_act_28 (by decide) ?_
  refine lv_icmp_ne (tgt := 40) hx hb dL_act_29 (by decide) (fun _ => ?_) (fun c => absurd c (by decide))
  refine lv_iload_n hx hb dL_act_40 rfl (lv_at hl 1 rfl) ?_
  refine lv_iconst (v := 3) hx hb dL_act_41 (by decide) ?_
  refine lv_icmp_ne (tgt := 53) hx hb dL_act_42 (by decide) (fun _ => ?_) (fun c => absurd c (by decide))
  refine lv_iload_n hx hb dL_act_53 rfl (lv_at hl 1 rfl) ?_
  refine lv_iconst (v := 4) hx hb dL_act_54 (by decide) ?_
  refine lv_icmp_ne (tgt := 71) hx hb dL_act_55 (by decide) (fun _ => ?_) (fun c => absurd c (by decide))
  refine lv_iload_n hx hb dL_act_71 rfl (lv_at hl 1 rfl) ?_
  refine lv_iconst (v := 5) hx hb dL_act_72 (by decide) ?_
  refine lv_icmp_ne (tgt := 84) hx hb dL_act_73 (by decide) (fun _ => ?_) (fun c => absurd c (by decide))
  refine lv_iload_n hx hb dL_act_84 rfl (lv_at hl 1 rfl) ?_
  refine lv_bipush (v := 6) hx hb dL_act_85 (by decide) ?_
  refine lv_icmp_ne (tgt := 99) hx hb dL_act_87 (by decide) (fun _ => ?_) (fun c => absurd c (by decide))
  refine lv_iload_n hx hb dL_act_99 rfl (lv_at hl 1 rfl) ?_
  refine lv_bipush (v := 7) hx hb dL_act_100 (by decide) ?_
  refine lv_icmp_ne (tgt := 114) hx hb dL_act_102 (by decide) (fun _ => ?_) (fun c => absurd c (by decide))
  refine lv_iload_n hx hb dL_act_114 rfl (lv_at hl 1 rfl) ?_
  refine lv_bipush (v := 8) hx hb dL_act_115 (by decide) ?_
  refine lv_icmp_ne (tgt := 128) hx hb dL_act_117 (by decide) (fun _ => ?_) (fun c => absurd c (by decide))
  refine lv_iload_n hx hb dL_act_128 rfl (lv_at hl 1 rfl) ?_
  refine lv_bipush (v := 9) hx hb dL_act_129 (by decide) ?_
  refine lv_icmp_ne (tgt := 142) hx hb dL_act_131 (by decide) (fun _ => ?_) (fun c => absurd c (by decide))
  refine lv_iload_n hx hb dL_act_142 rfl (lv_at hl 1 rfl) ?_
  refine lv_bipush (v := 10) hx hb dL_act_143 (by decide) ?_
  refine lv_icmp_ne (tgt := 156) hx hb dL_act_145 (by decide) (fun _ => ?_) (fun c => absurd c (by decide))
  refine lv_iload_n hx hb dL_act_156 rfl (lv_at hl 1 rfl) ?_
  refine lv_bipush (v := 11) hx hb dL_act_157 (by decide) ?_
  refine lv_icmp_ne (tgt := 170) hx hb dL_act_159 (by decide) (fun _ => ?_) (fun c => absurd c (by decide))
  refine lv_iload_n hx hb dL_act_170 rfl (lv_at hl 1 rfl) ?_
  refine lv_bipush (v := 12) hx hb dL_act_171 (by decide) ?_
  refine lv_icmp_ne (tgt := 184) hx hb dL_act_173 (by decide) (fun _ => ?_) (fun c => absurd c (by decide))
  refine lv_iload_n hx hb dL_act_184 rfl (lv_at hl 1 rfl) ?_
  refine lv_bipush (v := 13) hx hb dL_act_185 (by decide) ?_
  refine lv_icmp_ne (tgt := 198) hx hb dL_act_187 (by decide) (fun _ => ?_) (fun c => absurd c (by decide))
  refine lv_iload_n hx hb dL_act_198 rfl (lv_at hl 1 rfl) ?_
  refine lv_bipush (v := 14) hx hb dL_act_199 (by decide) ?_
  refine lv_icmp_ne (tgt := 212) hx hb dL_act_201 (by decide) (fun c => absurd (by decide) c) (fun _ => ?_)
  refine lv_aload_n hx hb dL_act_204 rfl (lv_at hl 0 rfl) ?_
  refine lv_iload_n hx hb dL_act_205 rfl (lv_at hl 2 rfl) ?_
  refine k_calli (rest := []) (q0 := 0) hC (c_X0_load l dC dI cI cZ h a qph qgr qne qap qle qfu qpc qgd qri qnw qtk qsv qwa qgi qlo qtu n i1 hpc hn hok) (cwV 1 hts gL_act_X0_load rfl rfl rfl hd_X0_load ⟨Nat.le_of_ble_eq_true rfl, Nat.le_of_ble_eq_true rfl⟩) hK hP hD hS hA rfl rfl rfl hl.1 (Nat.le_of_ble_eq_true rfl) dL_act_206 rfl ⟨Nat.zero_le _, Nat.zero_le _⟩ (fun H locs hP hD hS => ?_)
  refine lv_goto (tgt := 217) hx hb dL_act_209 (by decide) ?_
  exact hret H locs _ 217 ls _ rfl hS hP hD rfl dL_act_217
set_option maxHeartbeats 4000000 in
set_option maxRecDepth 100000 in
theorem a_load_1 (l : Launch) (hl0 : l.stackTraces = false) (dC : Nat → ClassId) (dI : Nat → Nat → Nat) (cI cZ : ClassId) (h : Nat) (a : Nat → Nat) (qph : AR) (qgr : AR) (qne : AR) (qap : AR) (qle : AR) (qfu : AR) (qpc : Int32) (qgd : Int32) (qri : Int32) (qnw : Int32) (qtk : Int32) (qsv : Int32) (qwa : AR) (qgi : AR) (qlo : AR) (qtu : AR) (n : Nat) (i1 i2 i3 i4 : Int32) (hpc : qpc = nI n) (hn : n ≤ 8) (hT : (X0_load_T n i1) = 1) : Lk l yL_act wsL_act rmxL_act dC dI cI cZ [.ref h, .int 14, .int i1, .int i2, .int i3, .int i4] (xW cI cZ h a qph qgr qne qap qle qfu qpc qgd qri qnw qtk qsv qwa qgi qlo qtu) (-70012) (fun w2 => w2 = (xW cI cZ h a qph qgr qne qap qle qfu qpc qgd qri qnw qtk qsv qwa qgi qlo qtu)) 1 6 := by
  refine lk_enterH (cc := cL_act) (maxL := 7) (by decide) rfl (Nat.le_of_ble_eq_true rfl) ?_
  intro p e s m args below meth c A ls Q hC htab hK hNs hZ hP hD hS hA hl hret
  obtain ⟨hx, hb, hml, hown, hts⟩ := id hC
  have hl : lv_has ls 7 [(0, .ref h), (1, .int 14), (2, .int i1), (3, .int i2), (4, .int i3), (5, .int i4)] := hl
  refine lv_iload_n hx hb dL_act_0 rfl (lv_at hl 1 rfl) ?_
  refine lv_if_ne (tgt := 13) hx hb dL_act_1 (by decide) (fun _ => ?_) (fun c => absurd c (by decide))
  refine lv_iload_n hx hb dL_act_13 rfl (lv_at hl 1 rfl) ?_
  refine lv_iconst (v := 1) hx hb dL_act_14 (by decide) ?_
  refine lv_icmp_ne (tgt := 27) hx hb dL_act_15 (by decide) (fun _ => ?_) (fun c => absurd c (by decide))
  refine lv_iload_n hx hb dL_act_27 rfl (lv_at hl 1 rfl) ?_
  refine lv_iconst (v := 2) hx hb dL_act_28 (by decide) ?_
  refine lv_icmp_ne (tgt := 40) hx hb dL_act_29 (by decide) (fun _ => ?_) (fun c => absurd c (by decide))
  refine lv_iload_n hx hb dL_act_40 rfl (lv_at hl 1 rfl) ?_
  refine lv_iconst (v := 3) hx hb dL_act_41 (by decide) ?_
  refine lv_icmp_ne (tgt := 53) hx hb dL_act_42 (by decide) (fun _ => ?_) (fun c => absurd c (by decide))
  refine lv_iload_n hx hb dL_act_53 rfl (lv_at hl 1 rfl) ?_
  refine lv_iconst (v := 4) hx hb dL_act_54 (by decide) ?_
  refine lv_icmp_ne (tgt := 71) hx hb dL_act_55 (by decide) (fun _ => ?_) (fun c => absurd c (by decide))
  refine lv_iload_n hx hb dL_act_71 rfl (lv_at hl 1 rfl) ?_
  refine lv_iconst (v := 5) hx hb dL_act_72 (by decide) ?_
  refine lv_icmp_ne (tgt := 84) hx hb dL_act_73 (by decide) (fun _ => ?_) (fun c => absurd c (by decide))
  refine lv_iload_n hx hb dL_act_84 rfl (lv_at hl 1 rfl) ?_
  refine lv_bipush (v := 6) hx hb dL_act_85 (by decide) ?_
  refine lv_icmp_ne (tgt := 99) hx hb dL_act_87 (by decide) (fun _ => ?_) (fun c => absurd c (by decide))
  refine lv_iload_n hx hb dL_act_99 rfl (lv_at hl 1 rfl) ?_
  refine lv_bipush (v := 7) hx hb dL_act_100 (by decide) ?_
  refine lv_icmp_ne (tgt := 114) hx hb dL_act_102 (by decide) (fun _ => ?_) (fun c => absurd c (by decide))
  refine lv_iload_n hx hb dL_act_114 rfl (lv_at hl 1 rfl) ?_
  refine lv_bipush (v := 8) hx hb dL_act_115 (by decide) ?_
  refine lv_icmp_ne (tgt := 128) hx hb dL_act_117 (by decide) (fun _ => ?_) (fun c => absurd c (by decide))
  refine lv_iload_n hx hb dL_act_128 rfl (lv_at hl 1 rfl) ?_
  refine lv_bipush (v := 9) hx hb dL_act_129 (by decide) ?_
  refine lv_icmp_ne (tgt := 142) hx hb dL_act_131 (by decide) (fun _ => ?_) (fun c => absurd c (by decide))
  refine lv_iload_n hx hb dL_act_142 rfl (lv_at hl 1 rfl) ?_
  refine lv_bipush (v := 10) hx hb dL_act_143 (by decide) ?_
  refine lv_icmp_ne (tgt := 156) hx hb dL_act_145 (by decide) (fun _ => ?_) (fun c => absurd c (by decide))
  refine lv_iload_n hx hb dL_act_156 rfl (lv_at hl 1 rfl) ?_
  refine lv_bipush (v := 11) hx hb dL_act_157 (by decide) ?_
  refine lv_icmp_ne (tgt := 170) hx hb dL_act_159 (by decide) (fun _ => ?_) (fun c => absurd c (by decide))
  refine lv_iload_n hx hb dL_act_170 rfl (lv_at hl 1 rfl) ?_
  refine lv_bipush (v := 12) hx hb dL_act_171 (by decide) ?_
  refine lv_icmp_ne (tgt := 184) hx hb dL_act_173 (by decide) (fun _ => ?_) (fun c => absurd c (by decide))
  refine lv_iload_n hx hb dL_act_184 rfl (lv_at hl 1 rfl) ?_
  refine lv_bipush (v := 13) hx hb dL_act_185 (by decide) ?_
  refine lv_icmp_ne (tgt := 198) hx hb dL_act_187 (by decide) (fun _ => ?_) (fun c => absurd c (by decide))
  refine lv_iload_n hx hb dL_act_198 rfl (lv_at hl 1 rfl) ?_
  refine lv_bipush (v := 14) hx hb dL_act_199 (by decide) ?_
  refine lv_icmp_ne (tgt := 212) hx hb dL_act_201 (by decide) (fun c => absurd (by decide) c) (fun _ => ?_)
  refine lv_aload_n hx hb dL_act_204 rfl (lv_at hl 0 rfl) ?_
  refine lv_iload_n hx hb dL_act_205 rfl (lv_at hl 2 rfl) ?_
  refine kx_callV (rest := []) (q0 := 0) hC (cx_X0_load l hl0 dC dI cI cZ h a qph qgr qne qap qle qfu qpc qgd qri qnw qtk qsv qwa qgi qlo qtu n i1 hpc hn (by rw [hT]; decide)) (cwV 1 hts gL_act_X0_load rfl rfl rfl hd_X0_load ⟨Nat.le_of_ble_eq_true rfl, Nat.le_of_ble_eq_true rfl⟩) hK hNs hZ hP hD hS hA rfl rfl rfl hl.1 (Nat.le_of_ble_eq_true rfl) dL_act_206 rfl ⟨Nat.le_of_ble_eq_true rfl, Nat.le_of_ble_eq_true rfl⟩ (fun E ce q H locs hex hP hD hS hcell hv hcl => ?_)
  obtain ⟨hT2, rfl⟩ := hex
  refine vx_catch (name := nIA) hown [⟨0, 217, 218, 60⟩] ⟨0, 217, 223, 63⟩ [⟨0, 217, 228, 66⟩] (by rw [htab]; rfl) (fun z hz => by rcases List.mem_singleton.mp hz with rfl; exact Or.inr ⟨by decide, nIO, hts (.classLink RL 60 nIO) (by decide +kernel), hNs.2.2.1.1⟩) (by decide) (by decide) (hts (.classLink RL 63 nIA) (by decide +kernel)) (va_Nw.use rfl hNs.2.1.1) hcell hv hcl ?_
  refine lv_astore (lv' := [(6, .ref q), (0, .ref h), (1, .int 14), (2, .int i1), (3, .int i2), (4, .int i3), (5, .int i4)]) hx hb dL_act_223 hl (by decide) rfl (fun ls hl => ?_)
  refine lv_ldc (v := -70012) hx hb hown (hts (.constant RL 65 (-70012)) (by decide +kernel)) dL_act_225 ?_
  exact hret H locs _ 227 ls _ rfl hS hP hD rfl dL_act_227
set_option maxHeartbeats 4000000 in
set_option maxRecDepth 100000 in
theorem a_fairLevel (l : Launch) (dC : Nat → ClassId) (dI : Nat → Nat → Nat) (cI cZ : ClassId) (h : Nat) (a : Nat → Nat) (qph : AR) (qgr : AR) (qne : AR) (qap : AR) (qle : AR) (qfu : AR) (qpc : Int32) (qgd : Int32) (qri : Int32) (qnw : Int32) (qtk : Int32) (qsv : Int32) (qwa : AR) (qgi : AR) (qlo : AR) (qtu : AR) (n : Nat) (i1 i2 i3 i4 : Int32) (hpc : qpc = nI n) (hn : n ≤ 8) (hok : (X0_fairLevel_T n i1) = 0) : Lk l yL_act wsL_act rmL_act dC dI cI cZ [.ref h, .int 15, .int i1, .int i2, .int i3, .int i4] (xW cI cZ h a qph qgr qne qap qle qfu qpc qgd qri qnw qtk qsv qwa qgi qlo qtu) ((X0_fairLevel qph qgr qne qap qle qfu qgd qri qnw qwa qgi qlo qtu n i1).1) (fun w2 => w2 = (xW cI cZ h a qph qgr qne qap qle qfu qpc qgd qri qnw qtk qsv ((X0_fairLevel qph qgr qne qap qle qfu qgd qri qnw qwa qgi qlo qtu n i1).2.1) ((X0_fairLevel qph qgr qne qap qle qfu qgd qri qnw qwa qgi qlo qtu n i1).2.2.1) ((X0_fairLevel qph qgr qne qap qle qfu qgd qri qnw qwa qgi qlo qtu n i1).2.2.2.1) ((X0_fairLevel qph qgr qne qap qle qfu qgd qri qnw qwa qgi qlo qtu n i1).2.2.2.2))) 0 0 := by
  refine lk_enterH (cc := cL_act) (maxL := 7) (by decide) rfl (Nat.le_of_ble_eq_true rfl) ?_
  intro p e s m args below meth c A ls Q hC htab hK hNs hZ hP hD hS hA hl hret
  obtain ⟨hx, hb, hml, hown, hts⟩ := id hC
  have hl : lv_has ls 7 [(0, .ref h), (1, .int 15), (2, .int i1), (3, .int i2), (4, .int i3), (5, .int i4)] := hl
  refine lv_iload_n hx hb dL_act_0 rfl (lv_at hl 1 rfl) ?_
  refine lv_if_ne (tgt := 13) hx hb dL_act_1 (by decide) (fun _ => ?_) (fun c => absurd c (by decide))
  refine lv_iload_n hx hb dL_act_13 rfl (lv_at hl 1 rfl) ?_
  refine lv_iconst (v := 1) hx hb dL_act_14 (by decide) ?_
  refine lv_icmp_ne (tgt := 27) hx hb dL_act_15 (by decide) (fun _ => ?_) (fun c => absurd c (by decide))
  refine lv_iload_n hx hb dL_act_27 rfl (lv_at hl 1 rfl) ?_
  refine lv_iconst (v := 2) hx hb dL_act_28 (by decide) ?_
  refine lv_icmp_ne (tgt := 40) hx hb dL_act_29 (by decide) (fun _ => ?_) (fun c => absurd c (by decide))
  refine lv_iload_n hx hb dL_act_40 rfl (lv_at hl 1 rfl) ?_
  refine lv_iconst (v := 3) hx hb dL_act_41 (by decide) ?_
  refine lv_icmp_ne (tgt := 53) hx hb dL_act_42 (by decide) (fun _ => ?_) (fun c => absurd c (by decide))
  refine lv_iload_n hx hb dL_act_53 rfl (lv_at hl 1 rfl) ?_
  refine lv_iconst (v := 4) hx hb dL_act_54 (by decide) ?_
  refine lv_icmp_ne (tgt := 71) hx hb dL_act_55 (by decide) (fun _ => ?_) (fun c => absurd c (by decide))
  refine lv_iload_n hx hb dL_act_71 rfl (lv_at hl 1 rfl) ?_
  refine lv_iconst (v := 5) hx hb dL_act_72 (by decide) ?_
  refine lv_icmp_ne (tgt := 84) hx hb dL_act_73 (by decide) (fun _ => ?_) (fun c => absurd c (by decide))
  refine lv_iload_n hx hb dL_act_84 rfl (lv_at hl 1 rfl) ?_
  refine lv_bipush (v := 6) hx hb dL_act_85 (by decide) ?_
  refine lv_icmp_ne (tgt := 99) hx hb dL_act_87 (by decide) (fun _ => ?_) (fun c => absurd c (by decide))
  refine lv_iload_n hx hb dL_act_99 rfl (lv_at hl 1 rfl) ?_
  refine lv_bipush (v := 7) hx hb dL_act_100 (by decide) ?_
  refine lv_icmp_ne (tgt := 114) hx hb dL_act_102 (by decide) (fun _ => ?_) (fun c => absurd c (by decide))
  refine lv_iload_n hx hb dL_act_114 rfl (lv_at hl 1 rfl) ?_
  refine lv_bipush (v := 8) hx hb dL_act_115 (by decide) ?_
  refine lv_icmp_ne (tgt := 128) hx hb dL_act_117 (by decide) (fun _ => ?_) (fun c => absurd c (by decide))
  refine lv_iload_n hx hb dL_act_128 rfl (lv_at hl 1 rfl) ?_
  refine lv_bipush (v := 9) hx hb dL_act_129 (by decide) ?_
  refine lv_icmp_ne (tgt := 142) hx hb dL_act_131 (by decide) (fun _ => ?_) (fun c => absurd c (by decide))
  refine lv_iload_n hx hb dL_act_142 rfl (lv_at hl 1 rfl) ?_
  refine lv_bipush (v := 10) hx hb dL_act_143 (by decide) ?_
  refine lv_icmp_ne (tgt := 156) hx hb dL_act_145 (by decide) (fun _ => ?_) (fun c => absurd c (by decide))
  refine lv_iload_n hx hb dL_act_156 rfl (lv_at hl 1 rfl) ?_
  refine lv_bipush (v := 11) hx hb dL_act_157 (by decide) ?_
  refine lv_icmp_ne (tgt := 170) hx hb dL_act_159 (by decide) (fun _ => ?_) (fun c => absurd c (by decide))
  refine lv_iload_n hx hb dL_act_170 rfl (lv_at hl 1 rfl) ?_
  refine lv_bipush (v := 12) hx hb dL_act_171 (by decide) ?_
  refine lv_icmp_ne (tgt := 184) hx hb dL_act_173 (by decide) (fun _ => ?_) (fun c => absurd c (by decide))
  refine lv_iload_n hx hb dL_act_184 rfl (lv_at hl 1 rfl) ?_
  refine lv_bipush (v := 13) hx hb dL_act_185 (by decide) ?_
  refine lv_icmp_ne (tgt := 198) hx hb dL_act_187 (by decide) (fun _ => ?_) (fun c => absurd c (by decide))
  refine lv_iload_n hx hb dL_act_198 rfl (lv_at hl 1 rfl) ?_
  refine lv_bipush (v := 14) hx hb dL_act_199 (by decide) ?_
  refine lv_icmp_ne (tgt := 212) hx hb dL_act_201 (by decide) (fun _ => ?_) (fun c => absurd c (by decide))
  refine lv_aload_n hx hb dL_act_212 rfl (lv_at hl 0 rfl) ?_
  refine lv_iload_n hx hb dL_act_213 rfl (lv_at hl 2 rfl) ?_
  refine k_calli (rest := []) (q0 := 0) hC (c_X0_fairLevel l dC dI cI cZ h a qph qgr qne qap qle qfu qpc qgd qri qnw qtk qsv qwa qgi qlo qtu n i1 hpc hn hok) (cwV 1 hts gL_act_X0_fairLevel rfl rfl rfl hd_X0_fairLevel ⟨Nat.le_of_ble_eq_true rfl, Nat.le_of_ble_eq_true rfl⟩) hK hP hD hS hA rfl rfl rfl hl.1 (Nat.le_of_ble_eq_true rfl) dL_act_214 rfl ⟨Nat.zero_le _, Nat.zero_le _⟩ (fun H locs hP hD hS => ?_)
  exact hret H locs _ 217 ls _ rfl hS hP hD rfl dL_act_217
set_option maxHeartbeats 4000000 in
set_option maxRecDepth 100000 in
theorem a_fairLevel_1 (l : Launch) (hl0 : l.stackTraces = false) (dC : Nat → ClassId) (dI : Nat → Nat → Nat) (cI cZ : ClassId) (h : Nat) (a : Nat → Nat) (qph : AR) (qgr : AR) (qne : AR) (qap : AR) (qle : AR) (qfu : AR) (qpc : Int32) (qgd : Int32) (qri : Int32) (qnw : Int32) (qtk : Int32) (qsv : Int32) (qwa : AR) (qgi : AR) (qlo : AR) (qtu : AR) (n : Nat) (i1 i2 i3 i4 : Int32) (hpc : qpc = nI n) (hn : n ≤ 8) (hT : (X0_fairLevel_T n i1) = 1) : Lk l yL_act wsL_act rmxL_act dC dI cI cZ [.ref h, .int 15, .int i1, .int i2, .int i3, .int i4] (xW cI cZ h a qph qgr qne qap qle qfu qpc qgd qri qnw qtk qsv qwa qgi qlo qtu) (-70012) (fun w2 => w2 = (xW cI cZ h a qph qgr qne qap qle qfu qpc qgd qri qnw qtk qsv qwa qgi qlo qtu)) 1 6 := by
  refine lk_enterH (cc := cL_act) (maxL := 7) (by decide) rfl (Nat.le_of_ble_eq_true rfl) ?_
  intro p e s m args below meth c A ls Q hC htab hK hNs hZ hP hD hS hA hl hret
  obtain ⟨hx, hb, hml, hown, hts⟩ := id hC
  have hl : lv_has ls 7 [(0, .ref h), (1, .int 15), (2, .int i1), (3, .int i2), (4, .int i3), (5, .int i4)] := hl
  refine lv_iload_n hx hb dL_act_0 rfl (lv_at hl 1 rfl) ?_
  refine lv_if_ne (tgt := 13) hx hb dL_act_1 (by decide) (fun _ => ?_) (fun c => absurd c (by decide))
  refine lv_iload_n hx hb dL_act_13 rfl (lv_at hl 1 rfl) ?_
  refine lv_iconst (v := 1) hx hb dL_act_14 (by decide) ?_
  refine lv_icmp_ne (tgt := 27) hx hb dL_act_15 (by decide) (fun _ => ?_) (fun c => absurd c (by decide))
  refine lv_iload_n hx hb dL_act_27 rfl (lv_at hl 1 rfl) ?_
  refine lv_iconst (v := 2) hx hb dL_act_28 (by decide) ?_
  refine lv_icmp_ne (tgt := 40) hx hb dL_act_29 (by decide) (fun _ => ?_) (fun c => absurd c (by decide))
  refine lv_iload_n hx hb dL_act_40 rfl (lv_at hl 1 rfl) ?_
  refine lv_iconst (v := 3) hx hb dL_act_41 (by decide) ?_
  refine lv_icmp_ne (tgt := 53) hx hb dL_act_42 (by decide) (fun _ => ?_) (fun c => absurd c (by decide))
  refine lv_iload_n hx hb dL_act_53 rfl (lv_at hl 1 rfl) ?_
  refine lv_iconst (v := 4) hx hb dL_act_54 (by decide) ?_
  refine lv_icmp_ne (tgt := 71) hx hb dL_act_55 (by decide) (fun _ => ?_) (fun c => absurd c (by decide))
  refine lv_iload_n hx hb dL_act_71 rfl (lv_at hl 1 rfl) ?_
  refine lv_iconst (v := 5) hx hb dL_act_72 (by decide) ?_
  refine lv_icmp_ne (tgt := 84) hx hb dL_act_73 (by decide) (fun _ => ?_) (fun c => absurd c (by decide))
  refine lv_iload_n hx hb dL_act_84 rfl (lv_at hl 1 rfl) ?_
  refine lv_bipush (v := 6) hx hb dL_act_85 (by decide) ?_
  refine lv_icmp_ne (tgt := 99) hx hb dL_act_87 (by decide) (fun _ => ?_) (fun c => absurd c (by decide))
  refine lv_iload_n hx hb dL_act_99 rfl (lv_at hl 1 rfl) ?_
  refine lv_bipush (v := 7) hx hb dL_act_100 (by decide) ?_
  refine lv_icmp_ne (tgt := 114) hx hb dL_act_102 (by decide) (fun _ => ?_) (fun c => absurd c (by decide))
  refine lv_iload_n hx hb dL_act_114 rfl (lv_at hl 1 rfl) ?_
  refine lv_bipush (v := 8) hx hb dL_act_115 (by decide) ?_
  refine lv_icmp_ne (tgt := 128) hx hb dL_act_117 (by decide) (fun _ => ?_) (fun c => absurd c (by decide))
  refine lv_iload_n hx hb dL_act_128 rfl (lv_at hl 1 rfl) ?_
  refine lv_bipush (v := 9) hx hb dL_act_129 (by decide) ?_
  refine lv_icmp_ne (tgt := 142) hx hb dL_act_131 (by decide) (fun _ => ?_) (fun c => absurd c (by decide))
  refine lv_iload_n hx hb dL_act_142 rfl (lv_at hl 1 rfl) ?_
  refine lv_bipush (v := 10) hx hb dL_act_143 (by decide) ?_
  refine lv_icmp_ne (tgt := 156) hx hb dL_act_145 (by decide) (fun _ => ?_) (fun c => absurd c (by decide))
  refine lv_iload_n hx hb dL_act_156 rfl (lv_at hl 1 rfl) ?_
  refine lv_bipush (v := 11) hx hb dL_act_157 (by decide) ?_
  refine lv_icmp_ne (tgt := 170) hx hb dL_act_159 (by decide) (fun _ => ?_) (fun c => absurd c (by decide))
  refine lv_iload_n hx hb dL_act_170 rfl (lv_at hl 1 rfl) ?_
  refine lv_bipush (v := 12) hx hb dL_act_171 (by decide) ?_
  refine lv_icmp_ne (tgt := 184) hx hb dL_act_173 (by decide) (fun _ => ?_) (fun c => absurd c (by decide))
  refine lv_iload_n hx hb dL_act_184 rfl (lv_at hl 1 rfl) ?_
  refine lv_bipush (v := 13) hx hb dL_act_185 (by decide) ?_
  refine lv_icmp_ne (tgt := 198) hx hb dL_act_187 (by decide) (fun _ => ?_) (fun c => absurd c (by decide))
  refine lv_iload_n hx hb dL_act_198 rfl (lv_at hl 1 rfl) ?_
  refine lv_bipush (v := 14) hx hb dL_act_199 (by decide) ?_
  refine lv_icmp_ne (tgt := 212) hx hb dL_act_201 (by decide) (fun _ => ?_) (fun c => absurd c (by decide))
  refine lv_aload_n hx hb dL_act_212 rfl (lv_at hl 0 rfl) ?_
  refine lv_iload_n hx hb dL_act_213 rfl (lv_at hl 2 rfl) ?_
  refine kx_callV (rest := []) (q0 := 0) hC (cx_X0_fairLevel l hl0 dC dI cI cZ h a qph qgr qne qap qle qfu qpc qgd qri qnw qtk qsv qwa qgi qlo qtu n i1 hpc hn (by rw [hT]; decide)) (cwV 1 hts gL_act_X0_fairLevel rfl rfl rfl hd_X0_fairLevel ⟨Nat.le_of_ble_eq_true rfl, Nat.le_of_ble_eq_true rfl⟩) hK hNs hZ hP hD hS hA rfl rfl rfl hl.1 (Nat.le_of_ble_eq_true rfl) dL_act_214 rfl ⟨Nat.le_of_ble_eq_true rfl, Nat.le_of_ble_eq_true rfl⟩ (fun E ce q H locs hex hP hD hS hcell hv hcl => ?_)
  obtain ⟨hT2, rfl⟩ := hex
  refine vx_catch (name := nIA) hown [⟨0, 217, 218, 60⟩] ⟨0, 217, 223, 63⟩ [⟨0, 217, 228, 66⟩] (by rw [htab]; rfl) (fun z hz => by rcases List.mem_singleton.mp hz with rfl; exact Or.inr ⟨by decide, nIO, hts (.classLink RL 60 nIO) (by decide +kernel), hNs.2.2.1.1⟩) (by decide) (by decide) (hts (.classLink RL 63 nIA) (by decide +kernel)) (va_Nw.use rfl hNs.2.1.1) hcell hv hcl ?_
  refine lv_astore (lv' := [(6, .ref q), (0, .ref h), (1, .int 15), (2, .int i1), (3, .int i2), (4, .int i3), (5, .int i4)]) hx hb dL_act_223 hl (by decide) rfl (fun ls hl => ?_)
  refine lv_ldc (v := -70012) hx hb hown (hts (.constant RL 65 (-70012)) (by decide +kernel)) dL_act_225 ?_
  exact hret H locs _ 227 ls _ rfl hS hP hD rfl dL_act_227
