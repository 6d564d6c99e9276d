abbrev rmL_point : Room := { frames := 2, cells := 0, slots := 0, locals := 45 }
set_option maxHeartbeats 4000000 in
set_option maxRecDepth 100000 in
theorem c_L_point (l : Launch) (dC : Nat → ClassId) (dI : Nat → Nat → Nat) (cI cZ cL : ClassId) (h : Nat) (a : Nat → Nat) (qph : AR) (qgr : AR) (qne : AR) (qap : AR) (qle : AR) (qfu : AR) (qpc : Int32) (qgd : Int32) (qri : Int32) (qnw : Int32) (qtk : Int32) (qsv : Int32) (qwa : AR) (qgi : AR) (qlo : AR) (qtu : AR) (n : Nat) (f : Int32) (g : Int32) (o : Nat) (og : Nat → Int64) (hpc : qpc = nI n) (hn : n ≤ 8) (hok : (X0_point_T qpc n f g) = 0) : Hok l yL_point wsL_point rmL_point dC dI cI cZ cL [.ref h, .int f, .int g, .ref o] ((xW cI cZ h a qph qgr qne qap qle qfu qpc qgd qri qnw qtk qsv qwa qgi qlo qtu) ++ oW cL o og) ((xW cI cZ h a ((X0_point qph qgr qne qpc n f g).2.1) ((X0_point qph qgr qne qpc n f g).2.2.1) ((X0_point qph qgr qne qpc n f g).2.2.2.1) qap qle qfu ((X0_point qph qgr qne qpc n f g).2.2.2.2) qgd qri qnw qtk qsv qwa qgi qlo qtu) ++ oW cL o (vp_updL og (0 : Int32).toNatClampNeg ((X0_point qph qgr qne qpc n f g).1).toInt64)) := by
  refine h_enter (cc := cL_point) (maxL := 5) (by decide) rfl (Nat.le_of_ble_eq_true rfl) ?_
  intro p e s m args below meth c A ls Q hC hK hP hD hS hA hl hret
  obtain ⟨hx, hb, hml, hown, hts⟩ := id hC
  have hl : lv_has ls 5 [(0, .ref h), (1, .int f), (2, .int g), (3, .ref o)] := hl
  refine lv_aload_n hx hb dL_point_0 rfl (lv_at hl 3 rfl) ?_
  refine lv_iconst (v := 0) hx hb dL_point_1 (by decide) ?_
  refine lv_aload_n hx hb dL_point_2 rfl (lv_at hl 0 rfl) ?_
  refine lv_iload_n hx hb dL_point_3 rfl (lv_at hl 1 rfl) ?_
  refine lv_iload_n hx hb dL_point_4 rfl (lv_at hl 2 rfl) ?_
  refine kf_calli (rest := [.int 0, .ref o]) (q0 := 0) hC (c_X0_point l dC dI cI cZ h a qph qgr qne qap qle qfu qpc qgd qri qnw qtk qsv qwa qgi qlo qtu n f g hpc hn hok) (cwV 2 hts gL_point_X0_point rfl rfl rfl hd_X0_point ⟨Nat.le_of_ble_eq_true rfl, Nat.le_of_ble_eq_true rfl⟩) (k_sub3 hK) hP hD hS hA rfl rfl rfl hl.1 (Nat.le_of_ble_eq_true rfl) dL_point_5 rfl ⟨Nat.zero_le _, Nat.zero_le _⟩ (fun H locs hP hD hS => ?_)
  refine lv_i2l hx hb dL_point_8 rfl ?_
  refine va_last (f := og) hx hb hK hP hD hS 11 2 rfl rfl vpc0_1 dL_point_9 (fun H locs hP hD hS => ?_)
  have hP : va_P (dC, dI) vwCl ((xW cI cZ h a ((X0_point qph qgr qne qpc n f g).2.1) ((X0_point qph qgr qne qpc n f g).2.2.1) ((X0_point qph qgr qne qpc n f g).2.2.2.1) qap qle qfu ((X0_point qph qgr qne qpc n f g).2.2.2.2) qgd qri qnw qtk qsv qwa qgi qlo qtu) ++ oW cL o (vp_updL og (0 : Int32).toNatClampNeg ((X0_point qph qgr qne qpc n f g).1).toInt64)) H := hP
  have hD : va_D A ((xW cI cZ h a ((X0_point qph qgr qne qpc n f g).2.1) ((X0_point qph qgr qne qpc n f g).2.2.1) ((X0_point qph qgr qne qpc n f g).2.2.2.1) qap qle qfu ((X0_point qph qgr qne qpc n f g).2.2.2.2) qgd qri qnw qtk qsv qwa qgi qlo qtu) ++ oW cL o (vp_updL og (0 : Int32).toNatClampNeg ((X0_point qph qgr qne qpc n f g).1).toInt64)) := hD
  refine lv_goto (tgt := 21) hx hb dL_point_10 (by decide) ?_
  refine lv_iconst (v := 0) hx hb dL_point_21 (by decide) ?_
  exact hret H locs _ ls hS hP hD dL_point_22
abbrev rmxL_point : Room := { frames := 8, cells := 1, slots := 6, locals := 127 }
set_option maxHeartbeats 4000000 in
set_option maxRecDepth 100000 in
theorem cx_L_point (l : Launch) (hl0 : l.stackTraces = false) (dC : Nat → ClassId) (dI : Nat → Nat → Nat) (cI cZ cL : ClassId) (h : Nat) (a : Nat → Nat) (qph : AR) (qgr : AR) (qne : AR) (qap : AR) (qle : AR) (qfu : AR) (qpc : Int32) (qgd : Int32) (qri : Int32) (qnw : Int32) (qtk : Int32) (qsv : Int32) (qwa : AR) (qgi : AR) (qlo : AR) (qtu : AR) (n : Nat) (f : Int32) (g : Int32) (o : Nat) (og : Nat → Int64) (hpc : qpc = nI n) (hn : n ≤ 8) (hbad : ¬ (X0_point_T qpc n f g) = 0) : Hbad l yL_point wsL_point rmxL_point dC dI cI cZ cL [.ref h, .int f, .int g, .ref o] ((xW cI cZ h a qph qgr qne qap qle qfu qpc qgd qri qnw qtk qsv qwa qgi qlo qtu) ++ oW cL o og) (X0_point_T qpc n f g) := by
  refine h_enterX (cc := cL_point) (maxL := 5) (by decide) rfl (Nat.le_of_ble_eq_true rfl) ?_
  intro p e s m args below meth c A ls Q hC htab hK hNs hZ hP hD hS hA hl hret
  obtain ⟨hx, hb, hml, hown, hts⟩ := id hC
  have hl : lv_has ls 5 [(0, .ref h), (1, .int f), (2, .int g), (3, .ref o)] := hl
  refine lv_aload_n hx hb dL_point_0 rfl (lv_at hl 3 rfl) ?_
  refine lv_iconst (v := 0) hx hb dL_point_1 (by decide) ?_
  refine lv_aload_n hx hb dL_point_2 rfl (lv_at hl 0 rfl) ?_
  refine lv_iload_n hx hb dL_point_3 rfl (lv_at hl 1 rfl) ?_
  refine lv_iload_n hx hb dL_point_4 rfl (lv_at hl 2 rfl) ?_
  refine kf_callX (rest := [.int 0, .ref o]) (q0 := 0) hC (cx_X0_point l hl0 dC dI cI cZ h a qph qgr qne qap qle qfu qpc qgd qri qnw qtk qsv qwa qgi qlo qtu n f g hpc hn hbad) (cwV 2 hts gL_point_X0_point rfl rfl rfl hd_X0_point ⟨Nat.le_of_ble_eq_true rfl, Nat.le_of_ble_eq_true rfl⟩) (k_sub3 hK) hNs hZ hP hD hS hA rfl rfl rfl hl.1 (Nat.le_of_ble_eq_true rfl) dL_point_5 rfl ⟨Nat.le_of_ble_eq_true rfl, Nat.le_of_ble_eq_true rfl⟩ (fun E ce q H locs hex hP hD hS hcell hv hcl => ?_)
  rcases hex with ⟨hT, rfl⟩ | ⟨hT, rfl⟩
  · refine vx_catch (name := nIA) hown [] ⟨0, 10, 13, 13⟩ [⟨0, 10, 17, 15⟩] (by rw [htab]; rfl) (fun z hz => nomatch hz) (by decide) (by decide) (hts (.classLink RL 13 nIA) (by decide +kernel)) (va_Nw.use rfl hNs.2.1.1) hcell hv hcl ?_
    refine lv_astore (lv' := [(4, .ref q), (0, .ref h), (1, .int f), (2, .int g), (3, .ref o)]) hx hb dL_point_13 hl (by decide) rfl (fun ls hl => ?_)
    refine lv_iconst (v := 1) hx hb dL_point_15 (by decide) ?_
    exact hret H locs _ ls 1 hS hP hD hT.symm dL_point_16
  · refine vx_catch (name := nIS) hown [⟨0, 10, 13, 13⟩] ⟨0, 10, 17, 15⟩ [] (by rw [htab]; rfl) (fun z hz => by rcases List.mem_singleton.mp hz with rfl; exact Or.inr ⟨by decide, nIA, hts (.classLink RL 13 nIA) (by decide +kernel), hNs.2.2.1.2.2⟩) (by decide) (by decide) (hts (.classLink RL 15 nIS) (by decide +kernel)) (va_Nw.use rfl hNs.2.1.2.1) hcell hv hcl ?_
    refine lv_astore (lv' := [(4, .ref q), (0, .ref h), (1, .int f), (2, .int g), (3, .ref o)]) hx hb dL_point_17 hl (by decide) rfl (fun ls hl => ?_)
    refine lv_iconst (v := 2) hx hb dL_point_19 (by decide) ?_
    exact hret H locs _ ls 2 hS hP hD hT.symm dL_point_20
abbrev rmL_fuse : Room := { frames := 2, cells := 0, slots := 0, locals := 45 }
set_option maxHeartbeats 4000000 in
set_option maxRecDepth 100000 in
theorem c_L_fuse (l : Launch) (dC : Nat → ClassId) (dI : Nat → Nat → Nat) (cI cZ cL : ClassId) (h : Nat) (a : Nat → Nat) (qph : AR) (qgr : AR) (qne : AR) (qap : AR) (qle : AR) (qfu : AR) (qpc : Int32) (qgd : Int32) (qri : Int32) (qnw : Int32) (qtk : Int32) (qsv : Int32) (qwa : AR) (qgi : AR) (qlo : AR) (qtu : AR) (f : Int32) (x : Int32) (o : Nat) (og : Nat → Int64) (hok : (X0_fuse_T f x) = 0) : Hok l yL_fuse wsL_fuse rmL_fuse dC dI cI cZ cL [.ref h, .int f, .int x, .ref o] ((xW cI cZ h a qph qgr qne qap qle qfu qpc qgd qri qnw qtk qsv qwa qgi qlo qtu) ++ oW cL o og) ((xW cI cZ h a qph qgr qne qap qle ((X0_fuse qfu f x).2) qpc qgd qri qnw qtk qsv qwa qgi qlo qtu) ++ oW cL o (vp_updL og (0 : Int32).toNatClampNeg ((X0_fuse qfu f x).1).toInt64)) := by
  refine h_enter (cc := cL_fuse) (maxL := 5) (by decide) rfl (Nat.le_of_ble_eq_true rfl) ?_
  intro p e s m args below meth c A ls Q hC hK hP hD hS hA hl hret
  obtain ⟨hx, hb, hml, hown, hts⟩ := id hC
  have hl : lv_has ls 5 [(0, .ref h), (1, .int f), (2, .int x), (3, .ref o)] := hl
  refine lv_aload_n hx hb dL_fuse_0 rfl (lv_at hl 3 rfl) ?_
  refine lv_iconst (v := 0) hx hb dL_fuse_1 (by decide) ?_
  refine lv_aload_n hx hb dL_fuse_2 rfl (lv_at hl 0 rfl) ?_
  refine lv_iload_n hx hb dL_fuse_3 rfl (lv_at hl 1 rfl) ?_
  refine lv_iload_n hx hb dL_fuse_4 rfl (lv_at hl 2 rfl) ?_
  refine kf_calli (rest := [.int 0, .ref o]) (q0 := 0) hC (c_X0_fuse l dC dI cI cZ h a qph qgr qne qap qle qfu qpc qgd qri qnw qtk qsv qwa qgi qlo qtu f x hok) (cwV 2 hts gL_fuse_X0_fuse rfl rfl rfl hd_X0_fuse ⟨Nat.le_of_ble_eq_true rfl, Nat.le_of_ble_eq_true rfl⟩) (k_sub3 hK) hP hD hS hA rfl rfl rfl hl.1 (Nat.le_of_ble_eq_true rfl) dL_fuse_5 rfl ⟨Nat.zero_le _, Nat.zero_le _⟩ (fun H locs hP hD hS => ?_)
  refine lv_i2l hx hb dL_fuse_8 rfl ?_
  refine va_last (f := og) hx hb hK hP hD hS 11 2 rfl rfl vpc0_1 dL_fuse_9 (fun H locs hP hD hS => ?_)
  have hP : va_P (dC, dI) vwCl ((xW cI cZ h a qph qgr qne qap qle ((X0_fuse qfu f x).2) qpc qgd qri qnw qtk qsv qwa qgi qlo qtu) ++ oW cL o (vp_updL og (0 : Int32).toNatClampNeg ((X0_fuse qfu f x).1).toInt64)) H := hP
  have hD : va_D A ((xW cI cZ h a qph qgr qne qap qle ((X0_fuse qfu f x).2) qpc qgd qri qnw qtk qsv qwa qgi qlo qtu) ++ oW cL o (vp_updL og (0 : Int32).toNatClampNeg ((X0_fuse qfu f x).1).toInt64)) := hD
  refine lv_goto (tgt := 17) hx hb dL_fuse_10 (by decide) ?_
  refine lv_iconst (v := 0) hx hb dL_fuse_17 (by decide) ?_
  exact hret H locs _ ls hS hP hD dL_fuse_18
abbrev rmxL_fuse : Room := { frames := 8, cells := 1, slots := 6, locals := 127 }
set_option maxHeartbeats 4000000 in
set_option maxRecDepth 100000 in
theorem cx_L_fuse (l : Launch) (hl0 : l.stackTraces = false) (dC : Nat → ClassId) (dI : Nat → Nat → Nat) (cI cZ cL : ClassId) (h : Nat) (a : Nat → Nat) (qph : AR) (qgr : AR) (qne : AR) (qap : AR) (qle : AR) (qfu : AR) (qpc : Int32) (qgd : Int32) (qri : Int32) (qnw : Int32) (qtk : Int32) (qsv : Int32) (qwa : AR) (qgi : AR) (qlo : AR) (qtu : AR) (f : Int32) (x : Int32) (o : Nat) (og : Nat → Int64) (hbad : ¬ (X0_fuse_T f x) = 0) : Hbad l yL_fuse wsL_fuse rmxL_fuse dC dI cI cZ cL [.ref h, .int f, .int x, .ref o] ((xW cI cZ h a qph qgr qne qap qle qfu qpc qgd qri qnw qtk qsv qwa qgi qlo qtu) ++ oW cL o og) (X0_fuse_T f x) := by
  refine h_enterX (cc := cL_fuse) (maxL := 5) (by decide) rfl (Nat.le_of_ble_eq_true rfl) ?_
  intro p e s m args below meth c A ls Q hC htab hK hNs hZ hP hD hS hA hl hret
  obtain ⟨hx, hb, hml, hown, hts⟩ := id hC
  have hl : lv_has ls 5 [(0, .ref h), (1, .int f), (2, .int x), (3, .ref o)] := hl
  refine lv_aload_n hx hb dL_fuse_0 rfl (lv_at hl 3 rfl) ?_
  refine lv_iconst (v := 0) hx hb dL_fuse_1 (by decide) ?_
  refine lv_aload_n hx hb dL_fuse_2 rfl (lv_at hl 0 rfl) ?_
  refine lv_iload_n hx hb dL_fuse_3 rfl (lv_at hl 1 rfl) ?_
  refine lv_iload_n hx hb dL_fuse_4 rfl (lv_at hl 2 rfl) ?_
  refine kf_callX (rest := [.int 0, .ref o]) (q0 := 0) hC (cx_X0_fuse l hl0 dC dI cI cZ h a qph qgr qne qap qle qfu qpc qgd qri qnw qtk qsv qwa qgi qlo qtu f x hbad) (cwV 2 hts gL_fuse_X0_fuse rfl rfl rfl hd_X0_fuse ⟨Nat.le_of_ble_eq_true rfl, Nat.le_of_ble_eq_true rfl⟩) (k_sub3 hK) hNs hZ hP hD hS hA rfl rfl rfl hl.1 (Nat.le_of_ble_eq_true rfl) dL_fuse_5 rfl ⟨Nat.le_of_ble_eq_true rfl, Nat.le_of_ble_eq_true rfl⟩ (fun E ce q H locs hex hP hD hS hcell hv hcl => ?_)
  obtain ⟨hT, rfl⟩ := hex
  refine vx_catch (name := nIA) hown [] ⟨0, 10, 13, 13⟩ [] (by rw [htab]; rfl) (fun z hz => nomatch hz) (by decide) (by decide) (hts (.classLink RL 13 nIA) (by decide +kernel)) (va_Nw.use rfl hNs.2.1.1) hcell hv hcl ?_
  refine lv_astore (lv' := [(4, .ref q), (0, .ref h), (1, .int f), (2, .int x), (3, .ref o)]) hx hb dL_fuse_13 hl (by decide) rfl (fun ls hl => ?_)
  refine lv_iconst (v := 1) hx hb dL_fuse_15 (by decide) ?_
  exact hret H locs _ ls 1 hS hP hD hT.symm dL_fuse_16
abbrev rmL_balance : Room := { frames := 2, cells := 0, slots := 0, locals := 44 }
set_option maxHeartbeats 4000000 in
set_option maxRecDepth 100000 in
theorem c_L_balance (l : Launch) (dC : Nat → ClassId) (dI : Nat → Nat → Nat) (cI cZ cL : ClassId) (h : Nat) (a : Nat → Nat) (qph : AR) (qgr : AR) (qne : AR) (qap : AR) (qle : AR) (qfu : AR) (qpc : Int32) (qgd : Int32) (qri : Int32) (qnw : Int32) (qtk : Int32) (qsv : Int32) (qwa : AR) (qgi : AR) (qlo : AR) (qtu : AR) (x : Int32) (o : Nat) (og : Nat → Int64) (hok : (X0_balance_T x) = 0) : Hok l yL_balance wsL_balance rmL_balance dC dI cI cZ cL [.ref h, .int x, .ref o] ((xW cI cZ h a qph qgr qne qap qle qfu qpc qgd qri qnw qtk qsv qwa qgi qlo qtu) ++ oW cL o og) ((xW cI cZ h a qph qgr qne qap qle qfu qpc ((X0_balance qgd x).2) qri qnw qtk qsv qwa qgi qlo qtu) ++ oW cL o (vp_updL og (0 : Int32).toNatClampNeg ((X0_balance qgd x).1).toInt64)) := by
  refine h_enter (cc := cL_balance) (maxL := 4) (by decide) rfl (Nat.le_of_ble_eq_true rfl) ?_
  intro p e s m args below meth c A ls Q hC hK hP hD hS hA hl hret
  obtain ⟨hx, hb, hml, hown, hts⟩ := id hC
  have hl : lv_has ls 4 [(0, .ref h), (1, .int x), (2, .ref o)] := hl
  refine lv_aload_n hx hb dL_balance_0 rfl (lv_at hl 2 rfl) ?_
  refine lv_iconst (v := 0) hx hb dL_balance_1 (by decide) ?_
  refine lv_aload_n hx hb dL_balance_2 rfl (lv_at hl 0 rfl) ?_
  refine lv_iload_n hx hb dL_balance_3 rfl (lv_at hl 1 rfl) ?_
  refine kf_calli (rest := [.int 0, .ref o]) (q0 := 0) hC (c_X0_balance l dC dI cI cZ h a qph qgr qne qap qle qfu qpc qgd qri qnw qtk qsv qwa qgi qlo qtu x hok) (cwV 1 hts gL_balance_X0_balance rfl rfl rfl hd_X0_balance ⟨Nat.le_of_ble_eq_true rfl, Nat.le_of_ble_eq_true rfl⟩) (k_sub3 hK) hP hD hS hA rfl rfl rfl hl.1 (Nat.le_of_ble_eq_true rfl) dL_balance_4 rfl ⟨Nat.zero_le _, Nat.zero_le _⟩ (fun H locs hP hD hS => ?_)
  refine lv_i2l hx hb dL_balance_7 rfl ?_
  refine va_last (f := og) hx hb hK hP hD hS 11 2 rfl rfl vpc0_1 dL_balance_8 (fun H locs hP hD hS => ?_)
  have hP : va_P (dC, dI) vwCl ((xW cI cZ h a qph qgr qne qap qle qfu qpc ((X0_balance qgd x).2) qri qnw qtk qsv qwa qgi qlo qtu) ++ oW cL o (vp_updL og (0 : Int32).toNatClampNeg ((X0_balance qgd x).1).toInt64)) H := hP
  have hD : va_D A ((xW cI cZ h a qph qgr qne qap qle qfu qpc ((X0_balance qgd x).2) qri qnw qtk qsv qwa qgi qlo qtu) ++ oW cL o (vp_updL og (0 : Int32).toNatClampNeg ((X0_balance qgd x).1).toInt64)) := hD
  refine lv_goto (tgt := 15) hx hb dL_balance_9 (by decide) ?_
  refine lv_iconst (v := 0) hx hb dL_balance_15 (by decide) ?_
  exact hret H locs _ ls hS hP hD dL_balance_16
abbrev rmxL_balance : Room := { frames := 8, cells := 1, slots := 6, locals := 126 }
set_option maxHeartbeats 4000000 in
set_option maxRecDepth 100000 in
theorem cx_L_balance (l : Launch) (hl0 : l.stackTraces = false) (dC : Nat → ClassId) (dI : Nat → Nat → Nat) (cI cZ cL : ClassId) (h : Nat) (a : Nat → Nat) (qph : AR) (qgr : AR) (qne : AR) (qap : AR) (qle : AR) (qfu : AR) (qpc : Int32) (qgd : Int32) (qri : Int32) (qnw : Int32) (qtk : Int32) (qsv : Int32) (qwa : AR) (qgi : AR) (qlo : AR) (qtu : AR) (x : Int32) (o : Nat) (og : Nat → Int64) (hbad : ¬ (X0_balance_T x) = 0) : Hbad l yL_balance wsL_balance rmxL_balance dC dI cI cZ cL [.ref h, .int x, .ref o] ((xW cI cZ h a qph qgr qne qap qle qfu qpc qgd qri qnw qtk qsv qwa qgi qlo qtu) ++ oW cL o og) (X0_balance_T x) := by
  refine h_enterX (cc := cL_balance) (maxL := 4) (by decide) rfl (Nat.le_of_ble_eq_true rfl) ?_
  intro p e s m args below meth c A ls Q hC htab hK hNs hZ hP hD hS hA hl hret
  obtain ⟨hx, hb, hml, hown, hts⟩ := id hC
  have hl : lv_has ls 4 [(0, .ref h), (1, .int x), (2, .ref o)] := hl
  refine lv_aload_n hx hb dL_balance_0 rfl (lv_at hl 2 rfl) ?_
  refine lv_iconst (v := 0) hx hb dL_balance_1 (by decide) ?_
  refine lv_aload_n hx hb dL_balance_2 rfl (lv_at hl 0 rfl) ?_
  refine lv_iload_n hx hb dL_balance_3 rfl (lv_at hl 1 rfl) ?_
  refine kf_callX (rest := [.int 0, .ref o]) (q0 := 0) hC (cx_X0_balance l hl0 dC dI cI cZ h a qph qgr qne qap qle qfu qpc qgd qri qnw qtk qsv qwa qgi qlo qtu x hbad) (cwV 1 hts gL_balance_X0_balance rfl rfl rfl hd_X0_balance ⟨Nat.le_of_ble_eq_true rfl, Nat.le_of_ble_eq_true rfl⟩) (k_sub3 hK) hNs hZ hP hD hS hA rfl rfl rfl hl.1 (Nat.le_of_ble_eq_true rfl) dL_balance_4 rfl ⟨Nat.le_of_ble_eq_true rfl, Nat.le_of_ble_eq_true rfl⟩ (fun E ce q H locs hex hP hD hS hcell hv hcl => ?_)
  obtain ⟨hT, rfl⟩ := hex
  refine vx_catch (name := nIA) hown [] ⟨0, 9, 12, 13⟩ [] (by rw [htab]; rfl) (fun z hz => nomatch hz) (by decide) (by decide) (hts (.classLink RL 13 nIA) (by decide +kernel)) (va_Nw.use rfl hNs.2.1.1) hcell hv hcl ?_
  refine lv_astore_n (lv' := [(3, .ref q), (0, .ref h), (1, .int x), (2, .ref o)]) hx hb dL_balance_12 rfl hl (by decide) rfl (fun ls hl => ?_)
  refine lv_iconst (v := 1) hx hb dL_balance_13 (by decide) ?_
  exact hret H locs _ ls 1 hS hP hD hT.symm dL_balance_14
abbrev rmL_rule : Room := { frames := 2, cells := 0, slots := 0, locals := 44 }
set_option maxHeartbeats 4000000 in
set_option maxRecDepth 100000 in
theorem c_L_rule (l : Launch) (dC : Nat → ClassId) (dI : Nat → Nat → Nat) (cI cZ cL : ClassId) (h : Nat) (a : Nat → Nat) (qph : AR) (qgr : AR) (qne : AR) (qap : AR) (qle : AR) (qfu : AR) (qpc : Int32) (qgd : Int32) (qri : Int32) (qnw : Int32) (qtk : Int32) (qsv : Int32) (qwa : AR) (qgi : AR) (qlo : AR) (qtu : AR) (x : Int32) (o : Nat) (og : Nat → Int64) (hok : (X0_rule_T x) = 0) : Hok l yL_rule wsL_rule rmL_rule dC dI cI cZ cL [.ref h, .int x, .ref o] ((xW cI cZ h a qph qgr qne qap qle qfu qpc qgd qri qnw qtk qsv qwa qgi qlo qtu) ++ oW cL o og) ((xW cI cZ h a qph qgr qne qap qle qfu qpc qgd ((X0_rule qri x).2) qnw qtk qsv qwa qgi qlo qtu) ++ oW cL o (vp_updL og (0 : Int32).toNatClampNeg ((X0_rule qri x).1).toInt64)) := by
  refine h_enter (cc := cL_rule) (maxL := 4) (by decide) rfl (Nat.le_of_ble_eq_true rfl) ?_
  intro p e s m args below meth c A ls Q hC hK hP hD hS hA hl hret
  obtain ⟨hx, hb, hml, hown, hts⟩ := id hC
  have hl : lv_has ls 4 [(0, .ref h), (1, .int x), (2, .ref o)] := hl
  refine lv_aload_n hx hb dL_rule_0 rfl (lv_at hl 2 rfl) ?_
  refine lv_iconst (v := 0) hx hb dL_rule_1 (by decide) ?_
  refine lv_aload_n hx hb dL_rule_2 rfl (lv_at hl 0 rfl) ?_
  refine lv_iload_n hx hb dL_rule_3 rfl (lv_at hl 1 rfl) ?_
  refine kf_calli (rest := [.int 0, .ref o]) (q0 := 0) hC (c_X0_rule l dC dI cI cZ h a qph qgr qne qap qle qfu qpc qgd qri qnw qtk qsv qwa qgi qlo qtu x hok) (cwV 1 hts gL_rule_X0_rule rfl rfl rfl hd_X0_rule ⟨Nat.le_of_ble_eq_true rfl, Nat.le_of_ble_eq_true rfl⟩) (k_sub3 hK) hP hD hS hA rfl rfl rfl hl.1 (Nat.le_of_ble_eq_true rfl) dL_rule_4 rfl ⟨Nat.zero_le _, Nat.zero_le _⟩ (fun H locs hP hD hS => ?_)
  refine lv_i2l hx hb dL_rule_7 rfl ?_
  refine va_last (f := og) hx hb hK hP hD hS 11 2 rfl rfl vpc0_1 dL_rule_8 (fun H locs hP hD hS => ?_)
  have hP : va_P (dC, dI) vwCl ((xW cI cZ h a qph qgr qne qap qle qfu qpc qgd ((X0_rule qri x).2) qnw qtk qsv qwa qgi qlo qtu) ++ oW cL o (vp_updL og (0 : Int32).toNatClampNeg ((X0_rule qri x).1).toInt64)) H := hP
  have hD : va_D A ((xW cI cZ h a qph qgr qne qap qle qfu qpc qgd ((X0_rule qri x).2) qnw qtk qsv qwa qgi qlo qtu) ++ oW cL o (vp_updL og (0 : Int32).toNatClampNeg ((X0_rule qri x).1).toInt64)) := hD
  refine lv_goto (tgt := 15) hx hb dL_rule_9 (by decide) ?_
  refine lv_iconst (v := 0) hx hb dL_rule_15 (by decide) ?_
  exact hret H locs _ ls hS hP hD dL_rule_16
abbrev rmxL_rule : Room := { frames := 8, cells := 1, slots := 6, locals := 126 }
set_option maxHeartbeats 4000000 in
set_option maxRecDepth 100000 in
theorem cx_L_rule (l : Launch) (hl0 : l.stackTraces = false) (dC : Nat → ClassId) (dI : Nat → Nat → Nat) (cI cZ cL : ClassId) (h : Nat) (a : Nat → Nat) (qph : AR) (qgr : AR) (qne : AR) (qap : AR) (qle : AR) (qfu : AR) (qpc : Int32) (qgd : Int32) (qri : Int32) (qnw : Int32) (qtk : Int32) (qsv : Int32) (qwa : AR) (qgi : AR) (qlo : AR) (qtu : AR) (x : Int32) (o : Nat) (og : Nat → Int64) (hbad : ¬ (X0_rule_T x) = 0) : Hbad l yL_rule wsL_rule rmxL_rule dC dI cI cZ cL [.ref h, .int x, .ref o] ((xW cI cZ h a qph qgr qne qap qle qfu qpc qgd qri qnw qtk qsv qwa qgi qlo qtu) ++ oW cL o og) (X0_rule_T x) := by
  refine h_enterX (cc := cL_rule) (maxL := 4) (by decide) rfl (Nat.le_of_ble_eq_true rfl) ?_
  intro p e s m args below meth c A ls Q hC htab hK hNs hZ hP hD hS hA hl hret
  obtain ⟨hx, hb, hml, hown, hts⟩ := id hC
  have hl : lv_has ls 4 [(0, .ref h), (1, .int x), (2, .ref o)] := hl
  refine lv_aload_n hx hb dL_rule_0 rfl (lv_at hl 2 rfl) ?_
  refine lv_iconst (v := 0) hx hb dL_rule_1 (by decide) ?_
  refine lv_aload_n hx hb dL_rule_2 rfl (lv_at hl 0 rfl) ?_
  refine lv_iload_n hx hb dL_rule_3 rfl (lv_at hl 1 rfl) ?_
  refine kf_callX (rest := [.int 0, .ref o]) (q0 := 0) hC (cx_X0_rule l hl0 dC dI cI cZ h a qph qgr qne qap qle qfu qpc qgd qri qnw qtk qsv qwa qgi qlo qtu x hbad) (cwV 1 hts gL_rule_X0_rule rfl rfl rfl hd_X0_rule ⟨Nat.le_of_ble_eq_true rfl, Nat.le_of_ble_eq_true rfl⟩) (k_sub3 hK) hNs hZ hP hD hS hA rfl rfl rfl hl.1 (Nat.le_of_ble_eq_true rfl) dL_rule_4 rfl ⟨Nat.le_of_ble_eq_true rfl, Nat.le_of_ble_eq_true rfl⟩ (fun E ce q H locs hex hP hD hS hcell hv hcl => ?_)
  obtain ⟨hT, rfl⟩ := hex
  refine vx_catch (name := nIA) hown [] ⟨0, 9, 12, 13⟩ [] (by rw [htab]; rfl) (fun z hz => nomatch hz) (by decide) (by decide) (hts (.classLink RL 13 nIA) (by decide +kernel)) (va_Nw.use rfl hNs.2.1.1) hcell hv hcl ?_
  refine lv_astore_n (lv' := [(3, .ref q), (0, .ref h), (1, .int x), (2, .ref o)]) hx hb dL_rule_12 rfl hl (by decide) rfl (fun ls hl => ?_)
  refine lv_iconst (v := 1) hx hb dL_rule_13 (by decide) ?_
  exact hret H locs _ ls 1 hS hP hD hT.symm dL_rule_14
abbrev rmL_plugIn : Room := { frames := 4, cells := 0, slots := 0, locals := 80 }
set_option maxHeartbeats 4000000 in
set_option maxRecDepth 100000 in
theorem c_L_plugIn (l : Launch) (dC : Nat → ClassId) (dI : Nat → Nat → Nat) (cI cZ cL : ClassId) (h : Nat) (a : Nat → Nat) (qph : AR) (qgr : AR) (qne : AR) (qap : AR) (qle : AR) (qfu : AR) (qpc : Int32) (qgd : Int32) (qri : Int32) (qnw : Int32) (qtk : Int32) (qsv : Int32) (qwa : AR) (qgi : AR) (qlo : AR) (qtu : AR) (n : Nat) (i : Int32) (nd : Int32) (at_ : Int32) (sp : Int32) (o : Nat) (og : Nat → Int64) (hpc : qpc = nI n) (hn : n ≤ 8) (hok : (X0_plugIn_T qne qpc n i nd at_ sp) = 0) : Hok l yL_plugIn wsL_plugIn rmL_plugIn dC dI cI cZ cL [.ref h, .int i, .int nd, .int at_, .int sp, .ref o] ((xW cI cZ h a qph qgr qne qap qle qfu qpc qgd qri qnw qtk qsv qwa qgi qlo qtu) ++ oW cL o og) ((xW cI cZ h a qph qgr ((X0_plugIn qph qgr qne qap qle qpc qnw n i nd at_ sp).2.1) ((X0_plugIn qph qgr qne qap qle qpc qnw n i nd at_ sp).2.2.1) ((X0_plugIn qph qgr qne qap qle qpc qnw n i nd at_ sp).2.2.2) qfu qpc qgd qri qnw qtk qsv qwa qgi qlo qtu) ++ oW cL o (vp_updL og (0 : Int32).toNatClampNeg ((X0_plugIn qph qgr qne qap qle qpc qnw n i nd at_ sp).1).toInt64)) := by
  refine h_enter (cc := cL_plugIn) (maxL := 7) (by decide) rfl (Nat.le_of_ble_eq_true rfl) ?_
  intro p e s m args below meth c A ls Q hC hK hP hD hS hA hl hret
  obtain ⟨hx, hb, hml, hown, hts⟩ := id hC
  have hl : lv_has ls 7 [(0, .ref h), (1, .int i), (2, .int nd), (3, .int at_), (4, .int sp), (5, .ref o)] := hl
  refine lv_aload hx hb dL_plugIn_0 (lv_at hl 5 rfl) ?_
  refine lv_iconst (v := 0) hx hb dL_plugIn_2 (by decide) ?_
  refine lv_aload_n hx hb dL_plugIn_3 rfl (lv_at hl 0 rfl) ?_
  refine lv_iload_n hx hb dL_plugIn_4 rfl (lv_at hl 1 rfl) ?_
  refine lv_iload_n hx hb dL_plugIn_5 rfl (lv_at hl 2 rfl) ?_
  refine lv_iload_n hx hb dL_plugIn_6 rfl (lv_at hl 3 rfl) ?_
  refine lv_iload hx hb dL_plugIn_7 (lv_at hl 4 rfl) ?_
  refine kf_calli (rest := [.int 0, .ref o]) (q0 := 0) hC (c_X0_plugIn l dC dI cI cZ h a qph qgr qne qap qle qfu qpc qgd qri qnw qtk qsv qwa qgi qlo qtu n i nd at_ sp hpc hn hok) (cwV 4 hts gL_plugIn_X0_plugIn rfl rfl rfl hd_X0_plugIn ⟨Nat.le_of_ble_eq_true rfl, Nat.le_of_ble_eq_true rfl⟩) (k_sub3 hK) hP hD hS hA rfl rfl rfl hl.1 (Nat.le_of_ble_eq_true rfl) dL_plugIn_9 rfl ⟨Nat.zero_le _, Nat.zero_le _⟩ (fun H locs hP hD hS => ?_)
  refine lv_i2l hx hb dL_plugIn_12 rfl ?_
  refine va_last (f := og) hx hb hK hP hD hS 11 2 rfl rfl vpc0_1 dL_plugIn_13 (fun H locs hP hD hS => ?_)
  have hP : va_P (dC, dI) vwCl ((xW cI cZ h a qph qgr ((X0_plugIn qph qgr qne qap qle qpc qnw n i nd at_ sp).2.1) ((X0_plugIn qph qgr qne qap qle qpc qnw n i nd at_ sp).2.2.1) ((X0_plugIn qph qgr qne qap qle qpc qnw n i nd at_ sp).2.2.2) qfu qpc qgd qri qnw qtk qsv qwa qgi qlo qtu) ++ oW cL o (vp_updL og (0 : Int32).toNatClampNeg ((X0_plugIn qph qgr qne qap qle qpc qnw n i nd at_ sp).1).toInt64)) H := hP
  have hD : va_D A ((xW cI cZ h a qph qgr ((X0_plugIn qph qgr qne qap qle qpc qnw n i nd at_ sp).2.1) ((X0_plugIn qph qgr qne qap qle qpc qnw n i nd at_ sp).2.2.1) ((X0_plugIn qph qgr qne qap qle qpc qnw n i nd at_ sp).2.2.2) qfu qpc qgd qri qnw qtk qsv qwa qgi qlo qtu) ++ oW cL o (vp_updL og (0 : Int32).toNatClampNeg ((X0_plugIn qph qgr qne qap qle qpc qnw n i nd at_ sp).1).toInt64)) := hD
  refine lv_goto (tgt := 29) hx hb dL_plugIn_14 (by decide) ?_
  refine lv_iconst (v := 0) hx hb dL_plugIn_29 (by decide) ?_
  exact hret H locs _ ls hS hP hD dL_plugIn_30
abbrev rmxL_plugIn : Room := { frames := 8, cells := 1, slots := 6, locals := 128 }
set_option maxHeartbeats 4000000 in
set_option maxRecDepth 100000 in
theorem cx_L_plugIn (l : Launch) (hl0 : l.stackTraces = false) (dC : Nat → ClassId) (dI : Nat → Nat → Nat) (cI cZ cL : ClassId) (h : Nat) (a : Nat → Nat) (qph : AR) (qgr : AR) (qne : AR) (qap : AR) (qle : AR) (qfu : AR) (qpc : Int32) (qgd : Int32) (qri : Int32) (qnw : Int32) (qtk : Int32) (qsv : Int32) (qwa : AR) (qgi : AR) (qlo : AR) (qtu : AR) (n : Nat) (i : Int32) (nd : Int32) (at_ : Int32) (sp : Int32) (o : Nat) (og : Nat → Int64) (hpc : qpc = nI n) (hn : n ≤ 8) (hbad : ¬ (X0_plugIn_T qne qpc n i nd at_ sp) = 0) : Hbad l yL_plugIn wsL_plugIn rmxL_plugIn dC dI cI cZ cL [.ref h, .int i, .int nd, .int at_, .int sp, .ref o] ((xW cI cZ h a qph qgr qne qap qle qfu qpc qgd qri qnw qtk qsv qwa qgi qlo qtu) ++ oW cL o og) (X0_plugIn_T qne qpc n i nd at_ sp) := by
  refine h_enterX (cc := cL_plugIn) (maxL := 7) (by decide) rfl (Nat.le_of_ble_eq_true rfl) ?_
  intro p e s m args below meth c A ls Q hC htab hK hNs hZ hP hD hS hA hl hret
  obtain ⟨hx, hb, hml, hown, hts⟩ := id hC
  have hl : lv_has ls 7 [(0, .ref h), (1, .int i), (2, .int nd), (3, .int at_), (4, .int sp), (5, .ref o)] := hl
  refine lv_aload hx hb dL_plugIn_0 (lv_at hl 5 rfl) ?_
  refine lv_iconst (v := 0) hx hb dL_plugIn_2 (by decide) ?_
  refine lv_aload_n hx hb dL_plugIn_3 rfl (lv_at hl 0 rfl) ?_
  refine lv_iload_n hx hb dL_plugIn_4 rfl (lv_at hl 1 rfl) ?_
  refine lv_iload_n hx hb dL_plugIn_5 rfl (lv_at hl 2 rfl) ?_
  refine lv_iload_n hx hb dL_plugIn_6 rfl (lv_at hl 3 rfl) ?_
  refine lv_iload hx hb dL_plugIn_7 (lv_at hl 4 rfl) ?_
  refine kf_callX (rest := [.int 0, .ref o]) (q0 := 0) hC (cx_X0_plugIn l hl0 dC dI cI cZ h a qph qgr qne qap qle qfu qpc qgd qri qnw qtk qsv qwa qgi qlo qtu n i nd at_ sp hpc hn hbad) (cwV 4 hts gL_plugIn_X0_plugIn rfl rfl rfl hd_X0_plugIn ⟨Nat.le_of_ble_eq_true rfl, Nat.le_of_ble_eq_true rfl⟩) (k_sub3 hK) hNs hZ hP hD hS hA rfl rfl rfl hl.1 (Nat.le_of_ble_eq_true rfl) dL_plugIn_9 rfl ⟨Nat.le_of_ble_eq_true rfl, Nat.le_of_ble_eq_true rfl⟩ (fun E ce q H locs hex hP hD hS hcell hv hcl => ?_)
  rcases hex with ⟨hT, rfl⟩ | ⟨hT, rfl⟩ | ⟨hT, rfl⟩
  · refine vx_catch (name := nIO) hown [] ⟨0, 14, 17, 31⟩ [⟨0, 14, 21, 13⟩, ⟨0, 14, 25, 15⟩] (by rw [htab]; rfl) (fun z hz => nomatch hz) (by decide) (by decide) (hts (.classLink RL 31 nIO) (by decide +kernel)) (va_Nw.use rfl hNs.2.1.2.2) hcell hv hcl ?_
    refine lv_astore (lv' := [(6, .ref q), (0, .ref h), (1, .int i), (2, .int nd), (3, .int at_), (4, .int sp), (5, .ref o)]) hx hb dL_plugIn_17 hl (by decide) rfl (fun ls hl => ?_)
    refine lv_iconst (v := 1) hx hb dL_plugIn_19 (by decide) ?_
    exact hret H locs _ ls 1 hS hP hD hT.symm dL_plugIn_20
  · refine vx_catch (name := nIA) hown [⟨0, 14, 17, 31⟩] ⟨0, 14, 21, 13⟩ [⟨0, 14, 25, 15⟩] (by rw [htab]; rfl) (fun z hz => by rcases List.mem_singleton.mp hz with rfl; exact Or.inr ⟨by decide, nIO, hts (.classLink RL 31 nIO) (by decide +kernel), hNs.2.2.1.1⟩) (by decide) (by decide) (hts (.classLink RL 13 nIA) (by decide +kernel)) (va_Nw.use rfl hNs.2.1.1) hcell hv hcl ?_
    refine lv_astore (lv' := [(6, .ref q), (0, .ref h), (1, .int i), (2, .int nd), (3, .int at_), (4, .int sp), (5, .ref o)]) hx hb dL_plugIn_21 hl (by decide) rfl (fun ls hl => ?_)
    refine lv_iconst (v := 2) hx hb dL_plugIn_23 (by decide) ?_
    exact hret H locs _ ls 2 hS hP hD hT.symm dL_plugIn_24
  · refine vx_catch (name := nIS) hown [⟨0, 14, 17, 31⟩, ⟨0, 14, 21, 13⟩] ⟨0, 14, 25, 15⟩ [] (by rw [htab]; rfl) (fun z hz => by
        rcases List.mem_cons.mp hz with rfl | hz
        · exact Or.inr ⟨by decide, nIO, hts (.classLink RL 31 nIO) (by decide +kernel), hNs.2.2.1.2.1⟩
        · rcases List.mem_singleton.mp hz with rfl
          exact Or.inr ⟨by decide, nIA, hts (.classLink RL 13 nIA) (by decide +kernel), hNs.2.2.1.2.2⟩) (by decide) (by decide) (hts (.classLink RL 15 nIS) (by decide +kernel)) (va_Nw.use rfl hNs.2.1.2.1) hcell hv hcl ?_
    refine lv_astore (lv' := [(6, .ref q), (0, .ref h), (1, .int i), (2, .int nd), (3, .int at_), (4, .int sp), (5, .ref o)]) hx hb dL_plugIn_25 hl (by decide) rfl (fun ls hl => ?_)
    refine lv_iconst (v := 3) hx hb dL_plugIn_27 (by decide) ?_
    exact hret H locs _ ls 3 hS hP hD hT.symm dL_plugIn_28
abbrev rmL_takeOut : Room := { frames := 3, cells := 0, slots := 0, locals := 64 }
set_option maxHeartbeats 4000000 in
set_option maxRecDepth 100000 in
theorem c_L_takeOut (l : Launch) (dC : Nat → ClassId) (dI : Nat → Nat → Nat) (cI cZ cL : ClassId) (h : Nat) (a : Nat → Nat) (qph : AR) (qgr : AR) (qne : AR) (qap : AR) (qle : AR) (qfu : AR) (qpc : Int32) (qgd : Int32) (qri : Int32) (qnw : Int32) (qtk : Int32) (qsv : Int32) (qwa : AR) (qgi : AR) (qlo : AR) (qtu : AR) (n : Nat) (i : Int32) (o : Nat) (og : Nat → Int64) (hpc : qpc = nI n) (hn : n ≤ 8) (hok : (X0_takeOut_T qne qpc n i) = 0) : Hok l yL_takeOut wsL_takeOut rmL_takeOut dC dI cI cZ cL [.ref h, .int i, .ref o] ((xW cI cZ h a qph qgr qne qap qle qfu qpc qgd qri qnw qtk qsv qwa qgi qlo qtu) ++ oW cL o og) ((xW cI cZ h a qph qgr ((X0_takeOut qne qpc qsv n i).2.1) qap qle qfu qpc qgd qri qnw qtk ((X0_takeOut qne qpc qsv n i).2.2) qwa qgi qlo qtu) ++ oW cL o (vp_updL og (0 : Int32).toNatClampNeg ((X0_takeOut qne qpc qsv n i).1).toInt64)) := by
  refine h_enter (cc := cL_takeOut) (maxL := 4) (by decide) rfl (Nat.le_of_ble_eq_true rfl) ?_
  intro p e s m args below meth c A ls Q hC hK hP hD hS hA hl hret
  obtain ⟨hx, hb, hml, hown, hts⟩ := id hC
  have hl : lv_has ls 4 [(0, .ref h), (1, .int i), (2, .ref o)] := hl
  refine lv_aload_n hx hb dL_takeOut_0 rfl (lv_at hl 2 rfl) ?_
  refine lv_iconst (v := 0) hx hb dL_takeOut_1 (by decide) ?_
  refine lv_aload_n hx hb dL_takeOut_2 rfl (lv_at hl 0 rfl) ?_
  refine lv_iload_n hx hb dL_takeOut_3 rfl (lv_at hl 1 rfl) ?_
  refine kf_calli (rest := [.int 0, .ref o]) (q0 := 0) hC (c_X0_takeOut l dC dI cI cZ h a qph qgr qne qap qle qfu qpc qgd qri qnw qtk qsv qwa qgi qlo qtu n i hpc hn hok) (cwV 1 hts gL_takeOut_X0_takeOut rfl rfl rfl hd_X0_takeOut ⟨Nat.le_of_ble_eq_true rfl, Nat.le_of_ble_eq_true rfl⟩) (k_sub3 hK) hP hD hS hA rfl rfl rfl hl.1 (Nat.le_of_ble_eq_true rfl) dL_takeOut_4 rfl ⟨Nat.zero_le _, Nat.zero_le _⟩ (fun H locs hP hD hS => ?_)
  refine lv_i2l hx hb dL_takeOut_7 rfl ?_
  refine va_last (f := og) hx hb hK hP hD hS 11 2 rfl rfl vpc0_1 dL_takeOut_8 (fun H locs hP hD hS => ?_)
  have hP : va_P (dC, dI) vwCl ((xW cI cZ h a qph qgr ((X0_takeOut qne qpc qsv n i).2.1) qap qle qfu qpc qgd qri qnw qtk ((X0_takeOut qne qpc qsv n i).2.2) qwa qgi qlo qtu) ++ oW cL o (vp_updL og (0 : Int32).toNatClampNeg ((X0_takeOut qne qpc qsv n i).1).toInt64)) H := hP
  have hD : va_D A ((xW cI cZ h a qph qgr ((X0_takeOut qne qpc qsv n i).2.1) qap qle qfu qpc qgd qri qnw qtk ((X0_takeOut qne qpc qsv n i).2.2) qwa qgi qlo qtu) ++ oW cL o (vp_updL og (0 : Int32).toNatClampNeg ((X0_takeOut qne qpc qsv n i).1).toInt64)) := hD
  refine lv_goto (tgt := 18) hx hb dL_takeOut_9 (by decide) ?_
  refine lv_iconst (v := 0) hx hb dL_takeOut_18 (by decide) ?_
  exact hret H locs _ ls hS hP hD dL_takeOut_19
abbrev rmxL_takeOut : Room := { frames := 8, cells := 1, slots := 6, locals := 125 }
set_option maxHeartbeats 4000000 in
set_option maxRecDepth 100000 in
theorem cx_L_takeOut (l : Launch) (hl0 : l.stackTraces = false) (dC : Nat → ClassId) (dI : Nat → Nat → Nat) (cI cZ cL : ClassId) (h : Nat) (a : Nat → Nat) (qph : AR) (qgr : AR) (qne : AR) (qap : AR) (qle : AR) (qfu : AR) (qpc : Int32) (qgd : Int32) (qri : Int32) (qnw : Int32) (qtk : Int32) (qsv : Int32) (qwa : AR) (qgi : AR) (qlo : AR) (qtu : AR) (n : Nat) (i : Int32) (o : Nat) (og : Nat → Int64) (hpc : qpc = nI n) (hn : n ≤ 8) (hbad : ¬ (X0_takeOut_T qne qpc n i) = 0) : Hbad l yL_takeOut wsL_takeOut rmxL_takeOut dC dI cI cZ cL [.ref h, .int i, .ref o] ((xW cI cZ h a qph qgr qne qap qle qfu qpc qgd qri qnw qtk qsv qwa qgi qlo qtu) ++ oW cL o og) (X0_takeOut_T qne qpc n i) := by
  refine h_enterX (cc := cL_takeOut) (maxL := 4) (by decide) rfl (Nat.le_of_ble_eq_true rfl) ?_
  intro p e s m args below meth c A ls Q hC htab hK hNs hZ hP hD hS hA hl hret
  obtain ⟨hx, hb, hml, hown, hts⟩ := id hC
  have hl : lv_has ls 4 [(0, .ref h), (1, .int i), (2, .ref o)] := hl
  refine lv_aload_n hx hb dL_takeOut_0 rfl (lv_at hl 2 rfl) ?_
  refine lv_iconst (v := 0) hx hb dL_takeOut_1 (by decide) ?_
  refine lv_aload_n hx hb dL_takeOut_2 rfl (lv_at hl 0 rfl) ?_
  refine lv_iload_n hx hb dL_takeOut_3 rfl (lv_at hl 1 rfl) ?_
  refine kf_callX (rest := [.int 0, .ref o]) (q0 := 0) hC (cx_X0_takeOut l hl0 dC dI cI cZ h a qph qgr qne qap qle qfu qpc qgd qri qnw qtk qsv qwa qgi qlo qtu n i hpc hn hbad) (cwV 1 hts gL_takeOut_X0_takeOut rfl rfl rfl hd_X0_takeOut ⟨Nat.le_of_ble_eq_true rfl, Nat.le_of_ble_eq_true rfl⟩) (k_sub3 hK) hNs hZ hP hD hS hA rfl rfl rfl hl.1 (Nat.le_of_ble_eq_true rfl) dL_takeOut_4 rfl ⟨Nat.le_of_ble_eq_true rfl, Nat.le_of_ble_eq_true rfl⟩ (fun E ce q H locs hex hP hD hS hcell hv hcl => ?_)
  rcases hex with ⟨hT, rfl⟩ | ⟨hT, rfl⟩
  · refine vx_catch (name := nIO) hown [] ⟨0, 9, 12, 31⟩ [⟨0, 9, 15, 15⟩] (by rw [htab]; rfl) (fun z hz => nomatch hz) (by decide) (by decide) (hts (.classLink RL 31 nIO) (by decide +kernel)) (va_Nw.use rfl hNs.2.1.2.2) hcell hv hcl ?_
    refine lv_astore_n (lv' := [(3, .ref q), (0, .ref h), (1, .int i), (2, .ref o)]) hx hb dL_takeOut_12 rfl hl (by decide) rfl (fun ls hl => ?_)
    refine lv_iconst (v := 1) hx hb dL_takeOut_13 (by decide) ?_
    exact hret H locs _ ls 1 hS hP hD hT.symm dL_takeOut_14
  · refine vx_catch (name := nIS) hown [⟨0, 9, 12, 31⟩] ⟨0, 9, 15, 15⟩ [] (by rw [htab]; rfl) (fun z hz => by rcases List.mem_singleton.mp hz with rfl; exact Or.inr ⟨by decide, nIO, hts (.classLink RL 31 nIO) (by decide +kernel), hNs.2.2.1.2.1⟩) (by decide) (by decide) (hts (.classLink RL 15 nIS) (by decide +kernel)) (va_Nw.use rfl hNs.2.1.2.1) hcell hv hcl ?_
    refine lv_astore_n (lv' := [(3, .ref q), (0, .ref h), (1, .int i), (2, .ref o)]) hx hb dL_takeOut_15 rfl hl (by decide) rfl (fun ls hl => ?_)
    refine lv_iconst (v := 2) hx hb dL_takeOut_16 (by decide) ?_
    exact hret H locs _ ls 2 hS hP hD hT.symm dL_takeOut_17
abbrev rmL_appetite : Room := { frames := 3, cells := 0, slots := 0, locals := 65 }
set_option maxHeartbeats 4000000 in
set_option maxRecDepth 100000 in
theorem c_L_appetite (l : Launch) (dC : Nat → ClassId) (dI : Nat → Nat → Nat) (cI cZ cL : ClassId) (h : Nat) (a : Nat → Nat) (qph : AR) (qgr : AR) (qne : AR) (qap : AR) (qle : AR) (qfu : AR) (qpc : Int32) (qgd : Int32) (qri : Int32) (qnw : Int32) (qtk : Int32) (qsv : Int32) (qwa : AR) (qgi : AR) (qlo : AR) (qtu : AR) (n : Nat) (i : Int32) (x : Int32) (o : Nat) (og : Nat → Int64) (hpc : qpc = nI n) (hn : n ≤ 8) (hok : (X0_appetite_T qne qpc n i x) = 0) : Hok l yL_appetite wsL_appetite rmL_appetite dC dI cI cZ cL [.ref h, .int i, .int x, .ref o] ((xW cI cZ h a qph qgr qne qap qle qfu qpc qgd qri qnw qtk qsv qwa qgi qlo qtu) ++ oW cL o og) ((xW cI cZ h a qph qgr qne ((X0_appetite qne qap qpc n i x).2) qle qfu qpc qgd qri qnw qtk qsv qwa qgi qlo qtu) ++ oW cL o (vp_updL og (0 : Int32).toNatClampNeg ((X0_appetite qne qap qpc n i x).1).toInt64)) := by
  refine h_enter (cc := cL_appetite) (maxL := 5) (by decide) rfl (Nat.le_of_ble_eq_true rfl) ?_
  intro p e s m args below meth c A ls Q hC hK hP hD hS hA hl hret
  obtain ⟨hx, hb, hml, hown, hts⟩ := id hC
  have hl : lv_has ls 5 [(0, .ref h), (1, .int i), (2, .int x), (3, .ref o)] := hl
  refine lv_aload_n hx hb dL_appetite_0 rfl (lv_at hl 3 rfl) ?_
  refine lv_iconst (v := 0) hx hb dL_appetite_1 (by decide) ?_
  refine lv_aload_n hx hb dL_appetite_2 rfl (lv_at hl 0 rfl) ?_
  refine lv_iload_n hx hb dL_appetite_3 rfl (lv_at hl 1 rfl) ?_
  refine lv_iload_n hx hb dL_appetite_4 rfl (lv_at hl 2 rfl) ?_
  refine kf_calli (rest := [.int 0, .ref o]) (q0 := 0) hC (c_X0_appetite l dC dI cI cZ h a qph qgr qne qap qle qfu qpc qgd qri qnw qtk qsv qwa qgi qlo qtu n i x hpc hn hok) (cwV 2 hts gL_appetite_X0_appetite rfl rfl rfl hd_X0_appetite ⟨Nat.le_of_ble_eq_true rfl, Nat.le_of_ble_eq_true rfl⟩) (k_sub3 hK) hP hD hS hA rfl rfl rfl hl.1 (Nat.le_of_ble_eq_true rfl) dL_appetite_5 rfl ⟨Nat.zero_le _, Nat.zero_le _⟩ (fun H locs hP hD hS => ?_)
  refine lv_i2l hx hb dL_appetite_8 rfl ?_
  refine va_last (f := og) hx hb hK hP hD hS 11 2 rfl rfl vpc0_1 dL_appetite_9 (fun H locs hP hD hS => ?_)
  have hP : va_P (dC, dI) vwCl ((xW cI cZ h a qph qgr qne ((X0_appetite qne qap qpc n i x).2) qle qfu qpc qgd qri qnw qtk qsv qwa qgi qlo qtu) ++ oW cL o (vp_updL og (0 : Int32).toNatClampNeg ((X0_appetite qne qap qpc n i x).1).toInt64)) H := hP
  have hD : va_D A ((xW cI cZ h a qph qgr qne ((X0_appetite qne qap qpc n i x).2) qle qfu qpc qgd qri qnw qtk qsv qwa qgi qlo qtu) ++ oW cL o (vp_updL og (0 : Int32).toNatClampNeg ((X0_appetite qne qap qpc n i x).1).toInt64)) := hD
  refine lv_goto (tgt := 25) hx hb dL_appetite_10 (by decide) ?_
  refine lv_iconst (v := 0) hx hb dL_appetite_25 (by decide) ?_
  exact hret H locs _ ls hS hP hD dL_appetite_26
abbrev rmxL_appetite : Room := { frames := 8, cells := 1, slots := 6, locals := 127 }
set_option maxHeartbeats 4000000 in
set_option maxRecDepth 100000 in
theorem cx_L_appetite (l : Launch) (hl0 : l.stackTraces = false) (dC : Nat → ClassId) (dI : Nat → Nat → Nat) (cI cZ cL : ClassId) (h : Nat) (a : Nat → Nat) (qph : AR) (qgr : AR) (qne : AR) (qap : AR) (qle : AR) (qfu : AR) (qpc : Int32) (qgd : Int32) (qri : Int32) (qnw : Int32) (qtk : Int32) (qsv : Int32) (qwa : AR) (qgi : AR) (qlo : AR) (qtu : AR) (n : Nat) (i : Int32) (x : Int32) (o : Nat) (og : Nat → Int64) (hpc : qpc = nI n) (hn : n ≤ 8) (hbad : ¬ (X0_appetite_T qne qpc n i x) = 0) : Hbad l yL_appetite wsL_appetite rmxL_appetite dC dI cI cZ cL [.ref h, .int i, .int x, .ref o] ((xW cI cZ h a qph qgr qne qap qle qfu qpc qgd qri qnw qtk qsv qwa qgi qlo qtu) ++ oW cL o og) (X0_appetite_T qne qpc n i x) := by
  refine h_enterX (cc := cL_appetite) (maxL := 5) (by decide) rfl (Nat.le_of_ble_eq_true rfl) ?_
  intro p e s m args below meth c A ls Q hC htab hK hNs hZ hP hD hS hA hl hret
  obtain ⟨hx, hb, hml, hown, hts⟩ := id hC
  have hl : lv_has ls 5 [(0, .ref h), (1, .int i), (2, .int x), (3, .ref o)] := hl
  refine lv_aload_n hx hb dL_appetite_0 rfl (lv_at hl 3 rfl) ?_
  refine lv_iconst (v := 0) hx hb dL_appetite_1 (by decide) ?_
  refine lv_aload_n hx hb dL_appetite_2 rfl (lv_at hl 0 rfl) ?_
  refine lv_iload_n hx hb dL_appetite_3 rfl (lv_at hl 1 rfl) ?_
  refine lv_iload_n hx hb dL_appetite_4 rfl (lv_at hl 2 rfl) ?_
  refine kf_callX (rest := [.int 0, .ref o]) (q0 := 0) hC (cx_X0_appetite l hl0 dC dI cI cZ h a qph qgr qne qap qle qfu qpc qgd qri qnw qtk qsv qwa qgi qlo qtu n i x hpc hn hbad) (cwV 2 hts gL_appetite_X0_appetite rfl rfl rfl hd_X0_appetite ⟨Nat.le_of_ble_eq_true rfl, Nat.le_of_ble_eq_true rfl⟩) (k_sub3 hK) hNs hZ hP hD hS hA rfl rfl rfl hl.1 (Nat.le_of_ble_eq_true rfl) dL_appetite_5 rfl ⟨Nat.le_of_ble_eq_true rfl, Nat.le_of_ble_eq_true rfl⟩ (fun E ce q H locs hex hP hD hS hcell hv hcl => ?_)
  rcases hex with ⟨hT, rfl⟩ | ⟨hT, rfl⟩ | ⟨hT, rfl⟩
  · refine vx_catch (name := nIO) hown [] ⟨0, 10, 13, 31⟩ [⟨0, 10, 17, 13⟩, ⟨0, 10, 21, 15⟩] (by rw [htab]; rfl) (fun z hz => nomatch hz) (by decide) (by decide) (hts (.classLink RL 31 nIO) (by decide +kernel)) (va_Nw.use rfl hNs.2.1.2.2) hcell hv hcl ?_
    refine lv_astore (lv' := [(4, .ref q), (0, .ref h), (1, .int i), (2, .int x), (3, .ref o)]) hx hb dL_appetite_13 hl (by decide) rfl (fun ls hl => ?_)
    refine lv_iconst (v := 1) hx hb dL_appetite_15 (by decide) ?_
    exact hret H locs _ ls 1 hS hP hD hT.symm dL_appetite_16
  · refine vx_catch (name := nIA) hown [⟨0, 10, 13, 31⟩] ⟨0, 10, 17, 13⟩ [⟨0, 10, 21, 15⟩] (by rw [htab]; rfl) (fun z hz => by rcases List.mem_singleton.mp hz with rfl; exact Or.inr ⟨by decide, nIO, hts (.classLink RL 31 nIO) (by decide +kernel), hNs.2.2.1.1⟩) (by decide) (by decide) (hts (.classLink RL 13 nIA) (by decide +kernel)) (va_Nw.use rfl hNs.2.1.1) hcell hv hcl ?_
    refine lv_astore (lv' := [(4, .ref q), (0, .ref h), (1, .int i), (2, .int x), (3, .ref o)]) hx hb dL_appetite_17 hl (by decide) rfl (fun ls hl => ?_)
    refine lv_iconst (v := 2) hx hb dL_appetite_19 (by decide) ?_
    exact hret H locs _ ls 2 hS hP hD hT.symm dL_appetite_20
  · refine vx_catch (name := nIS) hown [⟨0, 10, 13, 31⟩, ⟨0, 10, 17, 13⟩] ⟨0, 10, 21, 15⟩ [] (by rw [htab]; rfl) (fun z hz => by
        rcases List.mem_cons.mp hz with rfl | hz
        · exact Or.inr ⟨by decide, nIO, hts (.classLink RL 31 nIO) (by decide +kernel), hNs.2.2.1.2.1⟩
        · rcases List.mem_singleton.mp hz with rfl
          exact Or.inr ⟨by decide, nIA, hts (.classLink RL 13 nIA) (by decide +kernel), hNs.2.2.1.2.2⟩) (by decide) (by decide) (hts (.classLink RL 15 nIS) (by decide +kernel)) (va_Nw.use rfl hNs.2.1.2.1) hcell hv hcl ?_
    refine lv_astore (lv' := [(4, .ref q), (0, .ref h), (1, .int i), (2, .int x), (3, .ref o)]) hx hb dL_appetite_21 hl (by decide) rfl (fun ls hl => ?_)
    refine lv_iconst (v := 3) hx hb dL_appetite_23 (by decide) ?_
    exact hret H locs _ ls 3 hS hP hD hT.symm dL_appetite_24
abbrev rmL_stay : Room := { frames := 3, cells := 0, slots := 0, locals := 64 }
set_option maxHeartbeats 4000000 in
set_option maxRecDepth 100000 in
theorem c_L_stay (l : Launch) (dC : Nat → ClassId) (dI : Nat → Nat → Nat) (cI cZ cL : ClassId) (h : Nat) (a : Nat → Nat) (qph : AR) (qgr : AR) (qne : AR) (qap : AR) (qle : AR) (qfu : AR) (qpc : Int32) (qgd : Int32) (qri : Int32) (qnw : Int32) (qtk : Int32) (qsv : Int32) (qwa : AR) (qgi : AR) (qlo : AR) (qtu : AR) (n : Nat) (i : Int32) (x : Int32) (o : Nat) (og : Nat → Int64) (hpc : qpc = nI n) (hn : n ≤ 8) (hok : (X0_stay_T qne qpc n i x) = 0) : Hok l yL_stay wsL_stay rmL_stay dC dI cI cZ cL [.ref h, .int i, .int x, .ref o] ((xW cI cZ h a qph qgr qne qap qle qfu qpc qgd qri qnw qtk qsv qwa qgi qlo qtu) ++ oW cL o og) ((xW cI cZ h a qph qgr qne qap ((X0_stay qne qle qpc qnw n i x).2) qfu qpc qgd qri qnw qtk qsv qwa qgi qlo qtu) ++ oW cL o (vp_updL og (0 : Int32).toNatClampNeg ((X0_stay qne qle qpc qnw n i x).1).toInt64)) := by
  refine h_enter (cc := cL_stay) (maxL := 5) (by decide) rfl (Nat.le_of_ble_eq_true rfl) ?_
  intro p e s m args below meth c A ls Q hC hK hP hD hS hA hl hret
  obtain ⟨hx, hb, hml, hown, hts⟩ := id hC
  have hl : lv_has ls 5 [(0, .ref h), (1, .int i), (2, .int x), (3, .ref o)] := hl
  refine lv_aload_n hx hb dL_stay_0 rfl (lv_at hl 3 rfl) ?_
  refine lv_iconst (v := 0) hx hb dL_stay_1 (by decide) ?_
  refine lv_aload_n hx hb dL_stay_2 rfl (lv_at hl 0 rfl) ?_
  refine lv_iload_n hx hb dL_stay_3 rfl (lv_at hl 1 rfl) ?_
  refine lv_iload_n hx hb dL_stay_4 rfl (lv_at hl 2 rfl) ?_
  refine kf_calli (rest := [.int 0, .ref o]) (q0 := 0) hC (c_X0_stay l dC dI cI cZ h a qph qgr qne qap qle qfu qpc qgd qri qnw qtk qsv qwa qgi qlo qtu n i x hpc hn hok) (cwV 2 hts gL_stay_X0_stay rfl rfl rfl hd_X0_stay ⟨Nat.le_of_ble_eq_true rfl, Nat.le_of_ble_eq_true rfl⟩) (k_sub3 hK) hP hD hS hA rfl rfl rfl hl.1 (Nat.le_of_ble_eq_true rfl) dL_stay_5 rfl ⟨Nat.zero_le _, Nat.zero_le _⟩ (fun H locs hP hD hS => ?_)
  refine lv_i2l hx hb dL_stay_8 rfl ?_
  refine va_last (f := og) hx hb hK hP hD hS 11 2 rfl rfl vpc0_1 dL_stay_9 (fun H locs hP hD hS => ?_)
  have hP : va_P (dC, dI) vwCl ((xW cI cZ h a qph qgr qne qap ((X0_stay qne qle qpc qnw n i x).2) qfu qpc qgd qri qnw qtk qsv qwa qgi qlo qtu) ++ oW cL o (vp_updL og (0 : Int32).toNatClampNeg ((X0_stay qne qle qpc qnw n i x).1).toInt64)) H := hP
  have hD : va_D A ((xW cI cZ h a qph qgr qne qap ((X0_stay qne qle qpc qnw n i x).2) qfu qpc qgd qri qnw qtk qsv qwa qgi qlo qtu) ++ oW cL o (vp_updL og (0 : Int32).toNatClampNeg ((X0_stay qne qle qpc qnw n i x).1).toInt64)) := hD
  refine lv_goto (tgt := 25) hx hb dL_stay_10 (by decide) ?_
  refine lv_iconst (v := 0) hx hb dL_stay_25 (by decide) ?_
  exact hret H locs _ ls hS hP hD dL_stay_26
abbrev rmxL_stay : Room := { frames := 8, cells := 1, slots := 6, locals := 126 }
set_option maxHeartbeats 4000000 in
set_option maxRecDepth 100000 in
theorem cx_L_stay (l : Launch) (hl0 : l.stackTraces = false) (dC : Nat → ClassId) (dI : Nat → Nat → Nat) (cI cZ cL : ClassId) (h : Nat) (a : Nat → Nat) (qph : AR) (qgr : AR) (qne : AR) (qap : AR) (qle : AR) (qfu : AR) (qpc : Int32) (qgd : Int32) (qri : Int32) (qnw : Int32) (qtk : Int32) (qsv : Int32) (qwa : AR) (qgi : AR) (qlo : AR) (qtu : AR) (n : Nat) (i : Int32) (x : Int32) (o : Nat) (og : Nat → Int64) (hpc : qpc = nI n) (hn : n ≤ 8) (hbad : ¬ (X0_stay_T qne qpc n i x) = 0) : Hbad l yL_stay wsL_stay rmxL_stay dC dI cI cZ cL [.ref h, .int i, .int x, .ref o] ((xW cI cZ h a qph qgr qne qap qle qfu qpc qgd qri qnw qtk qsv qwa qgi qlo qtu) ++ oW cL o og) (X0_stay_T qne qpc n i x) := by
  refine h_enterX (cc := cL_stay) (maxL := 5) (by decide) rfl (Nat.le_of_ble_eq_true rfl) ?_
  intro p e s m args below meth c A ls Q hC htab hK hNs hZ hP hD hS hA hl hret
  obtain ⟨hx, hb, hml, hown, hts⟩ := id hC
  have hl : lv_has ls 5 [(0, .ref h), (1, .int i), (2, .int x), (3, .ref o)] := hl
  refine lv_aload_n hx hb dL_stay_0 rfl (lv_at hl 3 rfl) ?_
  refine lv_iconst (v := 0) hx hb dL_stay_1 (by decide) ?_
  refine lv_aload_n hx hb dL_stay_2 rfl (lv_at hl 0 rfl) ?_
  refine lv_iload_n hx hb dL_stay_3 rfl (lv_at hl 1 rfl) ?_
  refine lv_iload_n hx hb dL_stay_4 rfl (lv_at hl 2 rfl) ?_
  refine kf_callX (rest := [.int 0, .ref o]) (q0 := 0) hC (cx_X0_stay l hl0 dC dI cI cZ h a qph qgr qne qap qle qfu qpc qgd qri qnw qtk qsv qwa qgi qlo qtu n i x hpc hn hbad) (cwV 2 hts gL_stay_X0_stay rfl rfl rfl hd_X0_stay ⟨Nat.le_of_ble_eq_true rfl, Nat.le_of_ble_eq_true rfl⟩) (k_sub3 hK) hNs hZ hP hD hS hA rfl rfl rfl hl.1 (Nat.le_of_ble_eq_true rfl) dL_stay_5 rfl ⟨Nat.le_of_ble_eq_true rfl, Nat.le_of_ble_eq_true rfl⟩ (fun E ce q H locs hex hP hD hS hcell hv hcl => ?_)
  rcases hex with ⟨hT, rfl⟩ | ⟨hT, rfl⟩ | ⟨hT, rfl⟩
  · refine vx_catch (name := nIO) hown [] ⟨0, 10, 13, 31⟩ [⟨0, 10, 17, 13⟩, ⟨0, 10, 21, 15⟩] (by rw [htab]; rfl) (fun z hz => nomatch hz) (by decide) (by decide) (hts (.classLink RL 31 nIO) (by decide +kernel)) (va_Nw.use rfl hNs.2.1.2.2) hcell hv hcl ?_
    refine lv_astore (lv' := [(4, .ref q), (0, .ref h), (1, .int i), (2, .int x), (3, .ref o)]) hx hb dL_stay_13 hl (by decide) rfl (fun ls hl => ?_)
    refine lv_iconst (v := 1) hx hb dL_stay_15 (by decide) ?_
    exact hret H locs _ ls 1 hS hP hD hT.symm dL_stay_16
  · refine vx_catch (name := nIA) hown [⟨0, 10, 13, 31⟩] ⟨0, 10, 17, 13⟩ [⟨0, 10, 21, 15⟩] (by rw [htab]; rfl) (fun z hz => by rcases List.mem_singleton.mp hz with rfl; exact Or.inr ⟨by decide, nIO, hts (.classLink RL 31 nIO) (by decide +kernel), hNs.2.2.1.1⟩) (by decide) (by decide) (hts (.classLink RL 13 nIA) (by decide +kernel)) (va_Nw.use rfl hNs.2.1.1) hcell hv hcl ?_
    refine lv_astore (lv' := [(4, .ref q), (0, .ref h), (1, .int i), (2, .int x), (3, .ref o)]) hx hb dL_stay_17 hl (by decide) rfl (fun ls hl => ?_)
    refine lv_iconst (v := 2) hx hb dL_stay_19 (by decide) ?_
    exact hret H locs _ ls 2 hS hP hD hT.symm dL_stay_20
  · refine vx_catch (name := nIS) hown [⟨0, 10, 13, 31⟩, ⟨0, 10, 17, 13⟩] ⟨0, 10, 21, 15⟩ [] (by rw [htab]; rfl) (fun z hz => by
        rcases List.mem_cons.mp hz with rfl | hz
        · exact Or.inr ⟨by decide, nIO, hts (.classLink RL 31 nIO) (by decide +kernel), hNs.2.2.1.2.1⟩
        · rcases List.mem_singleton.mp hz with rfl
          exact Or.inr ⟨by decide, nIA, hts (.classLink RL 13 nIA) (by decide +kernel), hNs.2.2.1.2.2⟩) (by decide) (by decide) (hts (.classLink RL 15 nIS) (by decide +kernel)) (va_Nw.use rfl hNs.2.1.2.1) hcell hv hcl ?_
    refine lv_astore (lv' := [(4, .ref q), (0, .ref h), (1, .int i), (2, .int x), (3, .ref o)]) hx hb dL_stay_21 hl (by decide) rfl (fun ls hl => ?_)
    refine lv_iconst (v := 3) hx hb dL_stay_23 (by decide) ?_
    exact hret H locs _ ls 3 hS hP hD hT.symm dL_stay_24
abbrev rmL_step : Room := { frames := 7, cells := 0, slots := 0, locals := 146 }
set_option maxHeartbeats 4000000 in
set_option maxRecDepth 100000 in
theorem c_L_step (l : Launch) (dC : Nat → ClassId) (dI : Nat → Nat → Nat) (cI cZ cL : ClassId) (h : Nat) (a : Nat → Nat) (qph : AR) (qgr : AR) (qne : AR) (qap : AR) (qle : AR) (qfu : AR) (qpc : Int32) (qgd : Int32) (qri : Int32) (qnw : Int32) (qtk : Int32) (qsv : Int32) (qwa : AR) (qgi : AR) (qlo : AR) (qtu : AR) (n : Nat) (i : Int32) (o : Nat) (og : Nat → Int64) (hpc : qpc = nI n) (hn : n ≤ 8) (hok : (X0_step_T n i) = 0) : Hok l yL_step wsL_step rmL_step dC dI cI cZ cL [.ref h, .int i, .ref o] ((xW cI cZ h a qph qgr qne qap qle qfu qpc qgd qri qnw qtk qsv qwa qgi qlo qtu) ++ oW cL o og) ((xW cI cZ h a qph qgr ((X0_step qph qgr qne qap qle qfu qgd qri qnw qtk qwa qgi qlo qtu n i).2.1) qap qle qfu qpc qgd qri ((X0_step qph qgr qne qap qle qfu qgd qri qnw qtk qwa qgi qlo qtu n i).2.2.1) ((X0_step qph qgr qne qap qle qfu qgd qri qnw qtk qwa qgi qlo qtu n i).2.2.2.1) qsv ((X0_step qph qgr qne qap qle qfu qgd qri qnw qtk qwa qgi qlo qtu n i).2.2.2.2.1) ((X0_step qph qgr qne qap qle qfu qgd qri qnw qtk qwa qgi qlo qtu n i).2.2.2.2.2.1) ((X0_step qph qgr qne qap qle qfu qgd qri qnw qtk qwa qgi qlo qtu n i).2.2.2.2.2.2.1) ((X0_step qph qgr qne qap qle qfu qgd qri qnw qtk qwa qgi qlo qtu n i).2.2.2.2.2.2.2)) ++ oW cL o (vp_updL og (0 : Int32).toNatClampNeg ((X0_step qph qgr qne qap qle qfu qgd qri qnw qtk qwa qgi qlo qtu n i).1).toInt64)) := by
  refine h_enter (cc := cL_step) (maxL := 4) (by decide) rfl (Nat.le_of_ble_eq_true rfl) ?_
  intro p e s m args below meth c A ls Q hC hK hP hD hS hA hl hret
  obtain ⟨hx, hb, hml, hown, hts⟩ := id hC
  have hl : lv_has ls 4 [(0, .ref h), (1, .int i), (2, .ref o)] := hl
  refine lv_aload_n hx hb dL_step_0 rfl (lv_at hl 2 rfl) ?_
  refine lv_iconst (v := 0) hx hb dL_step_1 (by decide) ?_
  refine lv_aload_n hx hb dL_step_2 rfl (lv_at hl 0 rfl) ?_
  refine lv_iload_n hx hb dL_step_3 rfl (lv_at hl 1 rfl) ?_
  refine kf_calli (rest := [.int 0, .ref o]) (q0 := 0) hC (c_X0_step l dC dI cI cZ h a qph qgr qne qap qle qfu qpc qgd qri qnw qtk qsv qwa qgi qlo qtu n i hpc hn hok) (cwV 1 hts gL_step_X0_step rfl rfl rfl hd_X0_step ⟨Nat.le_of_ble_eq_true rfl, Nat.le_of_ble_eq_true rfl⟩) (k_sub3 hK) hP hD hS hA rfl rfl rfl hl.1 (Nat.le_of_ble_eq_true rfl) dL_step_4 rfl ⟨Nat.zero_le _, Nat.zero_le _⟩ (fun H locs hP hD hS => ?_)
  refine lv_i2l hx hb dL_step_7 rfl ?_
  refine va_last (f := og) hx hb hK hP hD hS 11 2 rfl rfl vpc0_1 dL_step_8 (fun H locs hP hD hS => ?_)
  have hP : va_P (dC, dI) vwCl ((xW cI cZ h a qph qgr ((X0_step qph qgr qne qap qle qfu qgd qri qnw qtk qwa qgi qlo qtu n i).2.1) qap qle qfu qpc qgd qri ((X0_step qph qgr qne qap qle qfu qgd qri qnw qtk qwa qgi qlo qtu n i).2.2.1) ((X0_step qph qgr qne qap qle qfu qgd qri qnw qtk qwa qgi qlo qtu n i).2.2.2.1) qsv ((X0_step qph qgr qne qap qle qfu qgd qri qnw qtk qwa qgi qlo qtu n i).2.2.2.2.1) ((X0_step qph qgr qne qap qle qfu qgd qri qnw qtk qwa qgi qlo qtu n i).2.2.2.2.2.1) ((X0_step qph qgr qne qap qle qfu qgd qri qnw qtk qwa qgi qlo qtu n i).2.2.2.2.2.2.1) ((X0_step qph qgr qne qap qle qfu qgd qri qnw qtk qwa qgi qlo qtu n i).2.2.2.2.2.2.2)) ++ oW cL o (vp_updL og (0 : Int32).toNatClampNeg ((X0_step qph qgr qne qap qle qfu qgd qri qnw qtk qwa qgi qlo qtu n i).1).toInt64)) H := hP
  have hD : va_D A ((xW cI cZ h a qph qgr ((X0_step qph qgr qne qap qle qfu qgd qri qnw qtk qwa qgi qlo qtu n i).2.1) qap qle qfu qpc qgd qri ((X0_step qph qgr qne qap qle qfu qgd qri qnw qtk qwa qgi qlo qtu n i).2.2.1) ((X0_step qph qgr qne qap qle qfu qgd qri qnw qtk qwa qgi qlo qtu n i).2.2.2.1) qsv ((X0_step qph qgr qne qap qle qfu qgd qri qnw qtk qwa qgi qlo qtu n i).2.2.2.2.1) ((X0_step qph qgr qne qap qle qfu qgd qri qnw qtk qwa qgi qlo qtu n i).2.2.2.2.2.1) ((X0_step qph qgr qne qap qle qfu qgd qri qnw qtk qwa qgi qlo qtu n i).2.2.2.2.2.2.1) ((X0_step qph qgr qne qap qle qfu qgd qri qnw qtk qwa qgi qlo qtu n i).2.2.2.2.2.2.2)) ++ oW cL o (vp_updL og (0 : Int32).toNatClampNeg ((X0_step qph qgr qne qap qle qfu qgd qri qnw qtk qwa qgi qlo qtu n i).1).toInt64)) := hD
  refine lv_goto (tgt := 15) hx hb dL_step_9 (by decide) ?_
  refine lv_iconst (v := 0) hx hb dL_step_15 (by decide) ?_
  exact hret H locs _ ls hS hP hD dL_step_16
abbrev rmxL_step : Room := { frames := 8, cells := 1, slots := 6, locals := 127 }
set_option maxHeartbeats 4000000 in
set_option maxRecDepth 100000 in
theorem cx_L_step (l : Launch) (hl0 : l.stackTraces = false) (dC : Nat → ClassId) (dI : Nat → Nat → Nat) (cI cZ cL : ClassId) (h : Nat) (a : Nat → Nat) (qph : AR) (qgr : AR) (qne : AR) (qap : AR) (qle : AR) (qfu : AR) (qpc : Int32) (qgd : Int32) (qri : Int32) (qnw : Int32) (qtk : Int32) (qsv : Int32) (qwa : AR) (qgi : AR) (qlo : AR) (qtu : AR) (n : Nat) (i : Int32) (o : Nat) (og : Nat → Int64) (hpc : qpc = nI n) (hn : n ≤ 8) (hbad : ¬ (X0_step_T n i) = 0) : Hbad l yL_step wsL_step rmxL_step dC dI cI cZ cL [.ref h, .int i, .ref o] ((xW cI cZ h a qph qgr qne qap qle qfu qpc qgd qri qnw qtk qsv qwa qgi qlo qtu) ++ oW cL o og) (X0_step_T n i) := by
  refine h_enterX (cc := cL_step) (maxL := 4) (by decide) rfl (Nat.le_of_ble_eq_true rfl) ?_
  intro p e s m args below meth c A ls Q hC htab hK hNs hZ hP hD hS hA hl hret
  obtain ⟨hx, hb, hml, hown, hts⟩ := id hC
  have hl : lv_has ls 4 [(0, .ref h), (1, .int i), (2, .ref o)] := hl
  refine lv_aload_n hx hb dL_step_0 rfl (lv_at hl 2 rfl) ?_
  refine lv_iconst (v := 0) hx hb dL_step_1 (by decide) ?_
  refine lv_aload_n hx hb dL_step_2 rfl (lv_at hl 0 rfl) ?_
  refine lv_iload_n hx hb dL_step_3 rfl (lv_at hl 1 rfl) ?_
  refine kf_callX (rest := [.int 0, .ref o]) (q0 := 0) hC (cx_X0_step l hl0 dC dI cI cZ h a qph qgr qne qap qle qfu qpc qgd qri qnw qtk qsv qwa qgi qlo qtu n i hpc hn hbad) (cwV 1 hts gL_step_X0_step rfl rfl rfl hd_X0_step ⟨Nat.le_of_ble_eq_true rfl, Nat.le_of_ble_eq_true rfl⟩) (k_sub3 hK) hNs hZ hP hD hS hA rfl rfl rfl hl.1 (Nat.le_of_ble_eq_true rfl) dL_step_4 rfl ⟨Nat.le_of_ble_eq_true rfl, Nat.le_of_ble_eq_true rfl⟩ (fun E ce q H locs hex hP hD hS hcell hv hcl => ?_)
  obtain ⟨hT, rfl⟩ := hex
  refine vx_catch (name := nIA) hown [] ⟨0, 9, 12, 13⟩ [] (by rw [htab]; rfl) (fun z hz => nomatch hz) (by decide) (by decide) (hts (.classLink RL 13 nIA) (by decide +kernel)) (va_Nw.use rfl hNs.2.1.1) hcell hv hcl ?_
  refine lv_astore_n (lv' := [(3, .ref q), (0, .ref h), (1, .int i), (2, .ref o)]) hx hb dL_step_12 rfl hl (by decide) rfl (fun ls hl => ?_)
  refine lv_iconst (v := 1) hx hb dL_step_13 (by decide) ?_
  exact hret H locs _ ls 1 hS hP hD hT.symm dL_step_14
abbrev rmL_need : Room := { frames := 2, cells := 0, slots := 0, locals := 42 }
set_option maxHeartbeats 4000000 in
set_option maxRecDepth 100000 in
theorem c_L_need (l : Launch) (dC : Nat → ClassId) (dI : Nat → Nat → Nat) (cI cZ cL : ClassId) (h : Nat) (a : Nat → Nat) (qph : AR) (qgr : AR) (qne : AR) (qap : AR) (qle : AR) (qfu : AR) (qpc : Int32) (qgd : Int32) (qri : Int32) (qnw : Int32) (qtk : Int32) (qsv : Int32) (qwa : AR) (qgi : AR) (qlo : AR) (qtu : AR) (n : Nat) (i : Int32) (o : Nat) (og : Nat → Int64) (hpc : qpc = nI n) (hn : n ≤ 8) (hok : (X0_need_T qpc n i) = 0) : Hok l yL_need wsL_need rmL_need dC dI cI cZ cL [.ref h, .int i, .ref o] ((xW cI cZ h a qph qgr qne qap qle qfu qpc qgd qri qnw qtk qsv qwa qgi qlo qtu) ++ oW cL o og) ((xW cI cZ h a qph qgr qne qap qle qfu qpc qgd qri qnw qtk qsv qwa qgi qlo qtu) ++ oW cL o (vp_updL og (0 : Int32).toNatClampNeg (X0_need qne qpc n i).toInt64)) := by
  refine h_enter (cc := cL_need) (maxL := 4) (by decide) rfl (Nat.le_of_ble_eq_true rfl) ?_
  intro p e s m args below meth c A ls Q hC hK hP hD hS hA hl hret
  obtain ⟨hx, hb, hml, hown, hts⟩ := id hC
  have hl : lv_has ls 4 [(0, .ref h), (1, .int i), (2, .ref o)] := hl
  refine lv_aload_n hx hb dL_need_0 rfl (lv_at hl 2 rfl) ?_
  refine lv_iconst (v := 0) hx hb dL_need_1 (by decide) ?_
  refine lv_aload_n hx hb dL_need_2 rfl (lv_at hl 0 rfl) ?_
  refine lv_iload_n hx hb dL_need_3 rfl (lv_at hl 1 rfl) ?_
  refine kf_calli (rest := [.int 0, .ref o]) (q0 := 0) hC (c_X0_need l dC dI cI cZ h a qph qgr qne qap qle qfu qpc qgd qri qnw qtk qsv qwa qgi qlo qtu n i hpc hn hok) (cwV 1 hts gL_need_X0_need rfl rfl rfl hd_X0_need ⟨Nat.le_of_ble_eq_true rfl, Nat.le_of_ble_eq_true rfl⟩) (k_sub3 hK) hP hD hS hA rfl rfl rfl hl.1 (Nat.le_of_ble_eq_true rfl) dL_need_4 rfl ⟨Nat.zero_le _, Nat.zero_le _⟩ (fun H locs hP hD hS => ?_)
  refine lv_i2l hx hb dL_need_7 rfl ?_
  refine va_last (f := og) hx hb hK hP hD hS 11 2 rfl rfl vpc0_1 dL_need_8 (fun H locs hP hD hS => ?_)
  have hP : va_P (dC, dI) vwCl ((xW cI cZ h a qph qgr qne qap qle qfu qpc qgd qri qnw qtk qsv qwa qgi qlo qtu) ++ oW cL o (vp_updL og (0 : Int32).toNatClampNeg (X0_need qne qpc n i).toInt64)) H := hP
  have hD : va_D A ((xW cI cZ h a qph qgr qne qap qle qfu qpc qgd qri qnw qtk qsv qwa qgi qlo qtu) ++ oW cL o (vp_updL og (0 : Int32).toNatClampNeg (X0_need qne qpc n i).toInt64)) := hD
  refine lv_goto (tgt := 15) hx hb dL_need_9 (by decide) ?_
  refine lv_iconst (v := 0) hx hb dL_need_15 (by decide) ?_
  exact hret H locs _ ls hS hP hD dL_need_16
abbrev rmxL_need : Room := { frames := 8, cells := 1, slots := 6, locals := 124 }
set_option maxHeartbeats 4000000 in
set_option maxRecDepth 100000 in
theorem cx_L_need (l : Launch) (hl0 : l.stackTraces = false) (dC : Nat → ClassId) (dI : Nat → Nat → Nat) (cI cZ cL : ClassId) (h : Nat) (a : Nat → Nat) (qph : AR) (qgr : AR) (qne : AR) (qap : AR) (qle : AR) (qfu : AR) (qpc : Int32) (qgd : Int32) (qri : Int32) (qnw : Int32) (qtk : Int32) (qsv : Int32) (qwa : AR) (qgi : AR) (qlo : AR) (qtu : AR) (n : Nat) (i : Int32) (o : Nat) (og : Nat → Int64) (hpc : qpc = nI n) (hn : n ≤ 8) (hbad : ¬ (X0_need_T qpc n i) = 0) : Hbad l yL_need wsL_need rmxL_need dC dI cI cZ cL [.ref h, .int i, .ref o] ((xW cI cZ h a qph qgr qne qap qle qfu qpc qgd qri qnw qtk qsv qwa qgi qlo qtu) ++ oW cL o og) (X0_need_T qpc n i) := by
  refine h_enterX (cc := cL_need) (maxL := 4) (by decide) rfl (Nat.le_of_ble_eq_true rfl) ?_
  intro p e s m args below meth c A ls Q hC htab hK hNs hZ hP hD hS hA hl hret
  obtain ⟨hx, hb, hml, hown, hts⟩ := id hC
  have hl : lv_has ls 4 [(0, .ref h), (1, .int i), (2, .ref o)] := hl
  refine lv_aload_n hx hb dL_need_0 rfl (lv_at hl 2 rfl) ?_
  refine lv_iconst (v := 0) hx hb dL_need_1 (by decide) ?_
  refine lv_aload_n hx hb dL_need_2 rfl (lv_at hl 0 rfl) ?_
  refine lv_iload_n hx hb dL_need_3 rfl (lv_at hl 1 rfl) ?_
  refine kf_callX (rest := [.int 0, .ref o]) (q0 := 0) hC (cx_X0_need l hl0 dC dI cI cZ h a qph qgr qne qap qle qfu qpc qgd qri qnw qtk qsv qwa qgi qlo qtu n i hpc hn hbad) (cwV 1 hts gL_need_X0_need rfl rfl rfl hd_X0_need ⟨Nat.le_of_ble_eq_true rfl, Nat.le_of_ble_eq_true rfl⟩) (k_sub3 hK) hNs hZ hP hD hS hA rfl rfl rfl hl.1 (Nat.le_of_ble_eq_true rfl) dL_need_4 rfl ⟨Nat.le_of_ble_eq_true rfl, Nat.le_of_ble_eq_true rfl⟩ (fun E ce q H locs hex hP hD hS hcell hv hcl => ?_)
  obtain ⟨hT, rfl⟩ := hex
  refine vx_catch (name := nIO) hown [] ⟨0, 9, 12, 31⟩ [] (by rw [htab]; rfl) (fun z hz => nomatch hz) (by decide) (by decide) (hts (.classLink RL 31 nIO) (by decide +kernel)) (va_Nw.use rfl hNs.2.1.2.2) hcell hv hcl ?_
  refine lv_astore_n (lv' := [(3, .ref q), (0, .ref h), (1, .int i), (2, .ref o)]) hx hb dL_need_12 rfl hl (by decide) rfl (fun ls hl => ?_)
  refine lv_iconst (v := 1) hx hb dL_need_13 (by decide) ?_
  exact hret H locs _ ls 1 hS hP hD hT.symm dL_need_14
abbrev rmL_left : Room := { frames := 3, cells := 0, slots := 0, locals := 55 }
set_option maxHeartbeats 4000000 in
set_option maxRecDepth 100000 in
theorem c_L_left (l : Launch) (dC : Nat → ClassId) (dI : Nat → Nat → Nat) (cI cZ cL : ClassId) (h : Nat) (a : Nat → Nat) (qph : AR) (qgr : AR) (qne : AR) (qap : AR) (qle : AR) (qfu : AR) (qpc : Int32) (qgd : Int32) (qri : Int32) (qnw : Int32) (qtk : Int32) (qsv : Int32) (qwa : AR) (qgi : AR) (qlo : AR) (qtu : AR) (n : Nat) (i : Int32) (o : Nat) (og : Nat → Int64) (hpc : qpc = nI n) (hn : n ≤ 8) (hok : (X0_left_T qpc n i) = 0) : Hok l yL_left wsL_left rmL_left dC dI cI cZ cL [.ref h, .int i, .ref o] ((xW cI cZ h a qph qgr qne qap qle qfu qpc qgd qri qnw qtk qsv qwa qgi qlo qtu) ++ oW cL o og) ((xW cI cZ h a qph qgr qne qap qle qfu qpc qgd qri qnw qtk qsv qwa qgi qlo qtu) ++ oW cL o (vp_updL og (0 : Int32).toNatClampNeg (X0_left qne qle qpc qnw n i).toInt64)) := by
  refine h_enter (cc := cL_left) (maxL := 4) (by decide) rfl (Nat.le_of_ble_eq_true rfl) ?_
  intro p e s m args below meth c A ls Q hC hK hP hD hS hA hl hret
  obtain ⟨hx, hb, hml, hown, hts⟩ := id hC
  have hl : lv_has ls 4 [(0, .ref h), (1, .int i), (2, .ref o)] := hl
  refine lv_aload_n hx hb dL_left_0 rfl (lv_at hl 2 rfl) ?_
  refine lv_iconst (v := 0) hx hb dL_left_1 (by decide) ?_
  refine lv_aload_n hx hb dL_left_2 rfl (lv_at hl 0 rfl) ?_
  refine lv_iload_n hx hb dL_left_3 rfl (lv_at hl 1 rfl) ?_
  refine kf_calli (rest := [.int 0, .ref o]) (q0 := 0) hC (c_X0_left l dC dI cI cZ h a qph qgr qne qap qle qfu qpc qgd qri qnw qtk qsv qwa qgi qlo qtu n i hpc hn hok) (cwV 1 hts gL_left_X0_left rfl rfl rfl hd_X0_left ⟨Nat.le_of_ble_eq_true rfl, Nat.le_of_ble_eq_true rfl⟩) (k_sub3 hK) hP hD hS hA rfl rfl rfl hl.1 (Nat.le_of_ble_eq_true rfl) dL_left_4 rfl ⟨Nat.zero_le _, Nat.zero_le _⟩ (fun H locs hP hD hS => ?_)
  refine lv_i2l hx hb dL_left_7 rfl ?_
  refine va_last (f := og) hx hb hK hP hD hS 11 2 rfl rfl vpc0_1 dL_left_8 (fun H locs hP hD hS => ?_)
  have hP : va_P (dC, dI) vwCl ((xW cI cZ h a qph qgr qne qap qle qfu qpc qgd qri qnw qtk qsv qwa qgi qlo qtu) ++ oW cL o (vp_updL og (0 : Int32).toNatClampNeg (X0_left qne qle qpc qnw n i).toInt64)) H := hP
  have hD : va_D A ((xW cI cZ h a qph qgr qne qap qle qfu qpc qgd qri qnw qtk qsv qwa qgi qlo qtu) ++ oW cL o (vp_updL og (0 : Int32).toNatClampNeg (X0_left qne qle qpc qnw n i).toInt64)) := hD
  refine lv_goto (tgt := 15) hx hb dL_left_9 (by decide) ?_
  refine lv_iconst (v := 0) hx hb dL_left_15 (by decide) ?_
  exact hret H locs _ ls hS hP hD dL_left_16
abbrev rmxL_left : Room := { frames := 8, cells := 1, slots := 6, locals := 124 }
set_option maxHeartbeats 4000000 in
set_option maxRecDepth 100000 in
theorem cx_L_left (l : Launch) (hl0 : l.stackTraces = false) (dC : Nat → ClassId) (dI : Nat → Nat → Nat) (cI cZ cL : ClassId) (h : Nat) (a : Nat → Nat) (qph : AR) (qgr : AR) (qne : AR) (qap : AR) (qle : AR) (qfu : AR) (qpc : Int32) (qgd : Int32) (qri : Int32) (qnw : Int32) (qtk : Int32) (qsv : Int32) (qwa : AR) (qgi : AR) (qlo : AR) (qtu : AR) (n : Nat) (i : Int32) (o : Nat) (og : Nat → Int64) (hpc : qpc = nI n) (hn : n ≤ 8) (hbad : ¬ (X0_left_T qpc n i) = 0) : Hbad l yL_left wsL_left rmxL_left dC dI cI cZ cL [.ref h, .int i, .ref o] ((xW cI cZ h a qph qgr qne qap qle qfu qpc qgd qri qnw qtk qsv qwa qgi qlo qtu) ++ oW cL o og) (X0_left_T qpc n i) := by
  refine h_enterX (cc := cL_left) (maxL := 4) (by decide) rfl (Nat.le_of_ble_eq_true rfl) ?_
  intro p e s m args below meth c A ls Q hC htab hK hNs hZ hP hD hS hA hl hret
  obtain ⟨hx, hb, hml, hown, hts⟩ := id hC
  have hl : lv_has ls 4 [(0, .ref h), (1, .int i), (2, .ref o)] := hl
  refine lv_aload_n hx hb dL_left_0 rfl (lv_at hl 2 rfl) ?_
  refine lv_iconst (v := 0) hx hb dL_left_1 (by decide) ?_
  refine lv_aload_n hx hb dL_left_2 rfl (lv_at hl 0 rfl) ?_
  refine lv_iload_n hx hb dL_left_3 rfl (lv_at hl 1 rfl) ?_
  refine kf_callX (rest := [.int 0, .ref o]) (q0 := 0) hC (cx_X0_left l hl0 dC dI cI cZ h a qph qgr qne qap qle qfu qpc qgd qri qnw qtk qsv qwa qgi qlo qtu n i hpc hn hbad) (cwV 1 hts gL_left_X0_left rfl rfl rfl hd_X0_left ⟨Nat.le_of_ble_eq_true rfl, Nat.le_of_ble_eq_true rfl⟩) (k_sub3 hK) hNs hZ hP hD hS hA rfl rfl rfl hl.1 (Nat.le_of_ble_eq_true rfl) dL_left_4 rfl ⟨Nat.le_of_ble_eq_true rfl, Nat.le_of_ble_eq_true rfl⟩ (fun E ce q H locs hex hP hD hS hcell hv hcl => ?_)
  obtain ⟨hT, rfl⟩ := hex
  refine vx_catch (name := nIO) hown [] ⟨0, 9, 12, 31⟩ [] (by rw [htab]; rfl) (fun z hz => nomatch hz) (by decide) (by decide) (hts (.classLink RL 31 nIO) (by decide +kernel)) (va_Nw.use rfl hNs.2.1.2.2) hcell hv hcl ?_
  refine lv_astore_n (lv' := [(3, .ref q), (0, .ref h), (1, .int i), (2, .ref o)]) hx hb dL_left_12 rfl hl (by decide) rfl (fun ls hl => ?_)
  refine lv_iconst (v := 1) hx hb dL_left_13 (by decide) ?_
  exact hret H locs _ ls 1 hS hP hD hT.symm dL_left_14
abbrev rmL_laxity : Room := { frames := 4, cells := 0, slots := 0, locals := 77 }
set_option maxHeartbeats 4000000 in
set_option maxRecDepth 100000 in
theorem c_L_laxity (l : Launch) (dC : Nat → ClassId) (dI : Nat → Nat → Nat) (cI cZ cL : ClassId) (h : Nat) (a : Nat → Nat) (qph : AR) (qgr : AR) (qne : AR) (qap : AR) (qle : AR) (qfu : AR) (qpc : Int32) (qgd : Int32) (qri : Int32) (qnw : Int32) (qtk : Int32) (qsv : Int32) (qwa : AR) (qgi : AR) (qlo : AR) (qtu : AR) (n : Nat) (i : Int32) (o : Nat) (og : Nat → Int64) (hpc : qpc = nI n) (hn : n ≤ 8) (hok : (X0_laxity_T qne qpc n i) = 0) : Hok l yL_laxity wsL_laxity rmL_laxity dC dI cI cZ cL [.ref h, .int i, .ref o] ((xW cI cZ h a qph qgr qne qap qle qfu qpc qgd qri qnw qtk qsv qwa qgi qlo qtu) ++ oW cL o og) ((xW cI cZ h a qph qgr qne qap qle qfu qpc qgd qri qnw qtk qsv qwa qgi qlo qtu) ++ oW cL o (vp_updL og (0 : Int32).toNatClampNeg (X0_laxity qph qgr qne qap qle qpc qnw n i).toInt64)) := by
  refine h_enter (cc := cL_laxity) (maxL := 4) (by decide) rfl (Nat.le_of_ble_eq_true rfl) ?_
  intro p e s m args below meth c A ls Q hC hK hP hD hS hA hl hret
  obtain ⟨hx, hb, hml, hown, hts⟩ := id hC
  have hl : lv_has ls 4 [(0, .ref h), (1, .int i), (2, .ref o)] := hl
  refine lv_aload_n hx hb dL_laxity_0 rfl (lv_at hl 2 rfl) ?_
  refine lv_iconst (v := 0) hx hb dL_laxity_1 (by decide) ?_
  refine lv_aload_n hx hb dL_laxity_2 rfl (lv_at hl 0 rfl) ?_
  refine lv_iload_n hx hb dL_laxity_3 rfl (lv_at hl 1 rfl) ?_
  refine kf_calli (rest := [.int 0, .ref o]) (q0 := 0) hC (c_X0_laxity l dC dI cI cZ h a qph qgr qne qap qle qfu qpc qgd qri qnw qtk qsv qwa qgi qlo qtu n i hpc hn hok) (cwV 1 hts gL_laxity_X0_laxity rfl rfl rfl hd_X0_laxity ⟨Nat.le_of_ble_eq_true rfl, Nat.le_of_ble_eq_true rfl⟩) (k_sub3 hK) hP hD hS hA rfl rfl rfl hl.1 (Nat.le_of_ble_eq_true rfl) dL_laxity_4 rfl ⟨Nat.zero_le _, Nat.zero_le _⟩ (fun H locs hP hD hS => ?_)
  refine lv_i2l hx hb dL_laxity_7 rfl ?_
  refine va_last (f := og) hx hb hK hP hD hS 11 2 rfl rfl vpc0_1 dL_laxity_8 (fun H locs hP hD hS => ?_)
  have hP : va_P (dC, dI) vwCl ((xW cI cZ h a qph qgr qne qap qle qfu qpc qgd qri qnw qtk qsv qwa qgi qlo qtu) ++ oW cL o (vp_updL og (0 : Int32).toNatClampNeg (X0_laxity qph qgr qne qap qle qpc qnw n i).toInt64)) H := hP
  have hD : va_D A ((xW cI cZ h a qph qgr qne qap qle qfu qpc qgd qri qnw qtk qsv qwa qgi qlo qtu) ++ oW cL o (vp_updL og (0 : Int32).toNatClampNeg (X0_laxity qph qgr qne qap qle qpc qnw n i).toInt64)) := hD
  refine lv_goto (tgt := 18) hx hb dL_laxity_9 (by decide) ?_
  refine lv_iconst (v := 0) hx hb dL_laxity_18 (by decide) ?_
  exact hret H locs _ ls hS hP hD dL_laxity_19
abbrev rmxL_laxity : Room := { frames := 8, cells := 1, slots := 6, locals := 124 }
set_option maxHeartbeats 4000000 in
set_option maxRecDepth 100000 in
theorem cx_L_laxity (l : Launch) (hl0 : l.stackTraces = false) (dC : Nat → ClassId) (dI : Nat → Nat → Nat) (cI cZ cL : ClassId) (h : Nat) (a : Nat → Nat) (qph : AR) (qgr : AR) (qne : AR) (qap : AR) (qle : AR) (qfu : AR) (qpc : Int32) (qgd : Int32) (qri : Int32) (qnw : Int32) (qtk : Int32) (qsv : Int32) (qwa : AR) (qgi : AR) (qlo : AR) (qtu : AR) (n : Nat) (i : Int32) (o : Nat) (og : Nat → Int64) (hpc : qpc = nI n) (hn : n ≤ 8) (hbad : ¬ (X0_laxity_T qne qpc n i) = 0) : Hbad l yL_laxity wsL_laxity rmxL_laxity dC dI cI cZ cL [.ref h, .int i, .ref o] ((xW cI cZ h a qph qgr qne qap qle qfu qpc qgd qri qnw qtk qsv qwa qgi qlo qtu) ++ oW cL o og) (X0_laxity_T qne qpc n i) := by
  refine h_enterX (cc := cL_laxity) (maxL := 4) (by decide) rfl (Nat.le_of_ble_eq_true rfl) ?_
  intro p e s m args below meth c A ls Q hC htab hK hNs hZ hP hD hS hA hl hret
  obtain ⟨hx, hb, hml, hown, hts⟩ := id hC
  have hl : lv_has ls 4 [(0, .ref h), (1, .int i), (2, .ref o)] := hl
  refine lv_aload_n hx hb dL_laxity_0 rfl (lv_at hl 2 rfl) ?_
  refine lv_iconst (v := 0) hx hb dL_laxity_1 (by decide) ?_
  refine lv_aload_n hx hb dL_laxity_2 rfl (lv_at hl 0 rfl) ?_
  refine lv_iload_n hx hb dL_laxity_3 rfl (lv_at hl 1 rfl) ?_
  refine kf_callX (rest := [.int 0, .ref o]) (q0 := 0) hC (cx_X0_laxity l hl0 dC dI cI cZ h a qph qgr qne qap qle qfu qpc qgd qri qnw qtk qsv qwa qgi qlo qtu n i hpc hn hbad) (cwV 1 hts gL_laxity_X0_laxity rfl rfl rfl hd_X0_laxity ⟨Nat.le_of_ble_eq_true rfl, Nat.le_of_ble_eq_true rfl⟩) (k_sub3 hK) hNs hZ hP hD hS hA rfl rfl rfl hl.1 (Nat.le_of_ble_eq_true rfl) dL_laxity_4 rfl ⟨Nat.le_of_ble_eq_true rfl, Nat.le_of_ble_eq_true rfl⟩ (fun E ce q H locs hex hP hD hS hcell hv hcl => ?_)
  rcases hex with ⟨hT, rfl⟩ | ⟨hT, rfl⟩
  · refine vx_catch (name := nIO) hown [] ⟨0, 9, 12, 31⟩ [⟨0, 9, 15, 15⟩] (by rw [htab]; rfl) (fun z hz => nomatch hz) (by decide) (by decide) (hts (.classLink RL 31 nIO) (by decide +kernel)) (va_Nw.use rfl hNs.2.1.2.2) hcell hv hcl ?_
    refine lv_astore_n (lv' := [(3, .ref q), (0, .ref h), (1, .int i), (2, .ref o)]) hx hb dL_laxity_12 rfl hl (by decide) rfl (fun ls hl => ?_)
    refine lv_iconst (v := 1) hx hb dL_laxity_13 (by decide) ?_
    exact hret H locs _ ls 1 hS hP hD hT.symm dL_laxity_14
  · refine vx_catch (name := nIS) hown [⟨0, 9, 12, 31⟩] ⟨0, 9, 15, 15⟩ [] (by rw [htab]; rfl) (fun z hz => by rcases List.mem_singleton.mp hz with rfl; exact Or.inr ⟨by decide, nIO, hts (.classLink RL 31 nIO) (by decide +kernel), hNs.2.2.1.2.1⟩) (by decide) (by decide) (hts (.classLink RL 15 nIS) (by decide +kernel)) (va_Nw.use rfl hNs.2.1.2.1) hcell hv hcl ?_
    refine lv_astore_n (lv' := [(3, .ref q), (0, .ref h), (1, .int i), (2, .ref o)]) hx hb dL_laxity_15 rfl hl (by decide) rfl (fun ls hl => ?_)
    refine lv_iconst (v := 2) hx hb dL_laxity_16 (by decide) ?_
    exact hret H locs _ ls 2 hS hP hD hT.symm dL_laxity_17
abbrev rmL_reach : Room := { frames := 4, cells := 0, slots := 0, locals := 77 }
set_option maxHeartbeats 4000000 in
set_option maxRecDepth 100000 in
theorem c_L_reach (l : Launch) (dC : Nat → ClassId) (dI : Nat → Nat → Nat) (cI cZ cL : ClassId) (h : Nat) (a : Nat → Nat) (qph : AR) (qgr : AR) (qne : AR) (qap : AR) (qle : AR) (qfu : AR) (qpc : Int32) (qgd : Int32) (qri : Int32) (qnw : Int32) (qtk : Int32) (qsv : Int32) (qwa : AR) (qgi : AR) (qlo : AR) (qtu : AR) (n : Nat) (i : Int32) (o : Nat) (og : Nat → Int64) (hpc : qpc = nI n) (hn : n ≤ 8) (hok : (X0_reach_T qpc n i) = 0) : Hok l yL_reach wsL_reach rmL_reach dC dI cI cZ cL [.ref h, .int i, .ref o] ((xW cI cZ h a qph qgr qne qap qle qfu qpc qgd qri qnw qtk qsv qwa qgi qlo qtu) ++ oW cL o og) ((xW cI cZ h a qph qgr qne qap qle qfu qpc qgd qri qnw qtk qsv qwa qgi qlo qtu) ++ oW cL o (vp_updL og (0 : Int32).toNatClampNeg (X0_reach qph qgr qne qap qle qpc qnw n i).toInt64)) := by
  refine h_enter (cc := cL_reach) (maxL := 4) (by decide) rfl (Nat.le_of_ble_eq_true rfl) ?_
  intro p e s m args below meth c A ls Q hC hK hP hD hS hA hl hret
  obtain ⟨hx, hb, hml, hown, hts⟩ := id hC
  have hl : lv_has ls 4 [(0, .ref h), (1, .int i), (2, .ref o)] := hl
  refine lv_aload_n hx hb dL_reach_0 rfl (lv_at hl 2 rfl) ?_
  refine lv_iconst (v := 0) hx hb dL_reach_1 (by decide) ?_
  refine lv_aload_n hx hb dL_reach_2 rfl (lv_at hl 0 rfl) ?_
  refine lv_iload_n hx hb dL_reach_3 rfl (lv_at hl 1 rfl) ?_
  refine kf_calli (rest := [.int 0, .ref o]) (q0 := 0) hC (c_X0_reach l dC dI cI cZ h a qph qgr qne qap qle qfu qpc qgd qri qnw qtk qsv qwa qgi qlo qtu n i hpc hn hok) (cwV 1 hts gL_reach_X0_reach rfl rfl rfl hd_X0_reach ⟨Nat.le_of_ble_eq_true rfl, Nat.le_of_ble_eq_true rfl⟩) (k_sub3 hK) hP hD hS hA rfl rfl rfl hl.1 (Nat.le_of_ble_eq_true rfl) dL_reach_4 rfl ⟨Nat.zero_le _, Nat.zero_le _⟩ (fun H locs hP hD hS => ?_)
  refine lv_i2l hx hb dL_reach_7 rfl ?_
  refine va_last (f := og) hx hb hK hP hD hS 11 2 rfl rfl vpc0_1 dL_reach_8 (fun H locs hP hD hS => ?_)
  have hP : va_P (dC, dI) vwCl ((xW cI cZ h a qph qgr qne qap qle qfu qpc qgd qri qnw qtk qsv qwa qgi qlo qtu) ++ oW cL o (vp_updL og (0 : Int32).toNatClampNeg (X0_reach qph qgr qne qap qle qpc qnw n i).toInt64)) H := hP
  have hD : va_D A ((xW cI cZ h a qph qgr qne qap qle qfu qpc qgd qri qnw qtk qsv qwa qgi qlo qtu) ++ oW cL o (vp_updL og (0 : Int32).toNatClampNeg (X0_reach qph qgr qne qap qle qpc qnw n i).toInt64)) := hD
  refine lv_goto (tgt := 15) hx hb dL_reach_9 (by decide) ?_
  refine lv_iconst (v := 0) hx hb dL_reach_15 (by decide) ?_
  exact hret H locs _ ls hS hP hD dL_reach_16
abbrev rmxL_reach : Room := { frames := 8, cells := 1, slots := 6, locals := 124 }
set_option maxHeartbeats 4000000 in
set_option maxRecDepth 100000 in
theorem cx_L_reach (l : Launch) (hl0 : l.stackTraces = false) (dC : Nat → ClassId) (dI : Nat → Nat → Nat) (cI cZ cL : ClassId) (h : Nat) (a : Nat → Nat) (qph : AR) (qgr : AR) (qne : AR) (qap : AR) (qle : AR) (qfu : AR) (qpc : Int32) (qgd : Int32) (qri : Int32) (qnw : Int32) (qtk : Int32) (qsv : Int32) (qwa : AR) (qgi : AR) (qlo : AR) (qtu : AR) (n : Nat) (i : Int32) (o : Nat) (og : Nat → Int64) (hpc : qpc = nI n) (hn : n ≤ 8) (hbad : ¬ (X0_reach_T qpc n i) = 0) : Hbad l yL_reach wsL_reach rmxL_reach dC dI cI cZ cL [.ref h, .int i, .ref o] ((xW cI cZ h a qph qgr qne qap qle qfu qpc qgd qri qnw qtk qsv qwa qgi qlo qtu) ++ oW cL o og) (X0_reach_T qpc n i) := by
  refine h_enterX (cc := cL_reach) (maxL := 4) (by decide) rfl (Nat.le_of_ble_eq_true rfl) ?_
  intro p e s m args below meth c A ls Q hC htab hK hNs hZ hP hD hS hA hl hret
  obtain ⟨hx, hb, hml, hown, hts⟩ := id hC
  have hl : lv_has ls 4 [(0, .ref h), (1, .int i), (2, .ref o)] := hl
  refine lv_aload_n hx hb dL_reach_0 rfl (lv_at hl 2 rfl) ?_
  refine lv_iconst (v := 0) hx hb dL_reach_1 (by decide) ?_
  refine lv_aload_n hx hb dL_reach_2 rfl (lv_at hl 0 rfl) ?_
  refine lv_iload_n hx hb dL_reach_3 rfl (lv_at hl 1 rfl) ?_
  refine kf_callX (rest := [.int 0, .ref o]) (q0 := 0) hC (cx_X0_reach l hl0 dC dI cI cZ h a qph qgr qne qap qle qfu qpc qgd qri qnw qtk qsv qwa qgi qlo qtu n i hpc hn hbad) (cwV 1 hts gL_reach_X0_reach rfl rfl rfl hd_X0_reach ⟨Nat.le_of_ble_eq_true rfl, Nat.le_of_ble_eq_true rfl⟩) (k_sub3 hK) hNs hZ hP hD hS hA rfl rfl rfl hl.1 (Nat.le_of_ble_eq_true rfl) dL_reach_4 rfl ⟨Nat.le_of_ble_eq_true rfl, Nat.le_of_ble_eq_true rfl⟩ (fun E ce q H locs hex hP hD hS hcell hv hcl => ?_)
  obtain ⟨hT, rfl⟩ := hex
  refine vx_catch (name := nIO) hown [] ⟨0, 9, 12, 31⟩ [] (by rw [htab]; rfl) (fun z hz => nomatch hz) (by decide) (by decide) (hts (.classLink RL 31 nIO) (by decide +kernel)) (va_Nw.use rfl hNs.2.1.2.2) hcell hv hcl ?_
  refine lv_astore_n (lv' := [(3, .ref q), (0, .ref h), (1, .int i), (2, .ref o)]) hx hb dL_reach_12 rfl hl (by decide) rfl (fun ls hl => ?_)
  refine lv_iconst (v := 1) hx hb dL_reach_13 (by decide) ?_
  exact hret H locs _ ls 1 hS hP hD hT.symm dL_reach_14
abbrev rmL_current : Room := { frames := 7, cells := 0, slots := 0, locals := 144 }
set_option maxHeartbeats 4000000 in
set_option maxRecDepth 100000 in
theorem c_L_current (l : Launch) (dC : Nat → ClassId) (dI : Nat → Nat → Nat) (cI cZ cL : ClassId) (h : Nat) (a : Nat → Nat) (qph : AR) (qgr : AR) (qne : AR) (qap : AR) (qle : AR) (qfu : AR) (qpc : Int32) (qgd : Int32) (qri : Int32) (qnw : Int32) (qtk : Int32) (qsv : Int32) (qwa : AR) (qgi : AR) (qlo : AR) (qtu : AR) (n : Nat) (i : Int32) (o : Nat) (og : Nat → Int64) (hpc : qpc = nI n) (hn : n ≤ 8) (hok : (X0_current_T qpc n i) = 0) : Hok l yL_current wsL_current rmL_current dC dI cI cZ cL [.ref h, .int i, .ref o] ((xW cI cZ h a qph qgr qne qap qle qfu qpc qgd qri qnw qtk qsv qwa qgi qlo qtu) ++ oW cL o og) ((xW cI cZ h a qph qgr qne qap qle qfu qpc qgd qri qnw qtk qsv ((X0_current qph qgr qne qap qle qfu qpc qgd qri qnw qwa qgi qlo qtu n i).2.1) ((X0_current qph qgr qne qap qle qfu qpc qgd qri qnw qwa qgi qlo qtu n i).2.2.1) ((X0_current qph qgr qne qap qle qfu qpc qgd qri qnw qwa qgi qlo qtu n i).2.2.2.1) ((X0_current qph qgr qne qap qle qfu qpc qgd qri qnw qwa qgi qlo qtu n i).2.2.2.2)) ++ oW cL o (vp_updL og (0 : Int32).toNatClampNeg ((X0_current qph qgr qne qap qle qfu qpc qgd qri qnw qwa qgi qlo qtu n i).1).toInt64)) := by
  refine h_enter (cc := cL_current) (maxL := 4) (by decide) rfl (Nat.le_of_ble_eq_true rfl) ?_
  intro p e s m args below meth c A ls Q hC hK hP hD hS hA hl hret
  obtain ⟨hx, hb, hml, hown, hts⟩ := id hC
  have hl : lv_has ls 4 [(0, .ref h), (1, .int i), (2, .ref o)] := hl
  refine lv_aload_n hx hb dL_current_0 rfl (lv_at hl 2 rfl) ?_
  refine lv_iconst (v := 0) hx hb dL_current_1 (by decide) ?_
  refine lv_aload_n hx hb dL_current_2 rfl (lv_at hl 0 rfl) ?_
  refine lv_iload_n hx hb dL_current_3 rfl (lv_at hl 1 rfl) ?_
  refine kf_calli (rest := [.int 0, .ref o]) (q0 := 0) hC (c_X0_current l dC dI cI cZ h a qph qgr qne qap qle qfu qpc qgd qri qnw qtk qsv qwa qgi qlo qtu n i hpc hn hok) (cwV 1 hts gL_current_X0_current rfl rfl rfl hd_X0_current ⟨Nat.le_of_ble_eq_true rfl, Nat.le_of_ble_eq_true rfl⟩) (k_sub3 hK) hP hD hS hA rfl rfl rfl hl.1 (Nat.le_of_ble_eq_true rfl) dL_current_4 rfl ⟨Nat.zero_le _, Nat.zero_le _⟩ (fun H locs hP hD hS => ?_)
  refine lv_i2l hx hb dL_current_7 rfl ?_
  refine va_last (f := og) hx hb hK hP hD hS 11 2 rfl rfl vpc0_1 dL_current_8 (fun H locs hP hD hS => ?_)
  have hP : va_P (dC, dI) vwCl ((xW cI cZ h a qph qgr qne qap qle qfu qpc qgd qri qnw qtk qsv ((X0_current qph qgr qne qap qle qfu qpc qgd qri qnw qwa qgi qlo qtu n i).2.1) ((X0_current qph qgr qne qap qle qfu qpc qgd qri qnw qwa qgi qlo qtu n i).2.2.1) ((X0_current qph qgr qne qap qle qfu qpc qgd qri qnw qwa qgi qlo qtu n i).2.2.2.1) ((X0_current qph qgr qne qap qle qfu qpc qgd qri qnw qwa qgi qlo qtu n i).2.2.2.2)) ++ oW cL o (vp_updL og (0 : Int32).toNatClampNeg ((X0_current qph qgr qne qap qle qfu qpc qgd qri qnw qwa qgi qlo qtu n i).1).toInt64)) H := hP
  have hD : va_D A ((xW cI cZ h a qph qgr qne qap qle qfu qpc qgd qri qnw qtk qsv ((X0_current qph qgr qne qap qle qfu qpc qgd qri qnw qwa qgi qlo qtu n i).2.1) ((X0_current qph qgr qne qap qle qfu qpc qgd qri qnw qwa qgi qlo qtu n i).2.2.1) ((X0_current qph qgr qne qap qle qfu qpc qgd qri qnw qwa qgi qlo qtu n i).2.2.2.1) ((X0_current qph qgr qne qap qle qfu qpc qgd qri qnw qwa qgi qlo qtu n i).2.2.2.2)) ++ oW cL o (vp_updL og (0 : Int32).toNatClampNeg ((X0_current qph qgr qne qap qle qfu qpc qgd qri qnw qwa qgi qlo qtu n i).1).toInt64)) := hD
  refine lv_goto (tgt := 15) hx hb dL_current_9 (by decide) ?_
  refine lv_iconst (v := 0) hx hb dL_current_15 (by decide) ?_
  exact hret H locs _ ls hS hP hD dL_current_16
abbrev rmxL_current : Room := { frames := 8, cells := 1, slots := 6, locals := 124 }
set_option maxHeartbeats 4000000 in
set_option maxRecDepth 100000 in
theorem cx_L_current (l : Launch) (hl0 : l.stackTraces = false) (dC : Nat → ClassId) (dI : Nat → Nat → Nat) (cI cZ cL : ClassId) (h : Nat) (a : Nat → Nat) (qph : AR) (qgr : AR) (qne : AR) (qap : AR) (qle : AR) (qfu : AR) (qpc : Int32) (qgd : Int32) (qri : Int32) (qnw : Int32) (qtk : Int32) (qsv : Int32) (qwa : AR) (qgi : AR) (qlo : AR) (qtu : AR) (n : Nat) (i : Int32) (o : Nat) (og : Nat → Int64) (hpc : qpc = nI n) (hn : n ≤ 8) (hbad : ¬ (X0_current_T qpc n i) = 0) : Hbad l yL_current wsL_current rmxL_current dC dI cI cZ cL [.ref h, .int i, .ref o] ((xW cI cZ h a qph qgr qne qap qle qfu qpc qgd qri qnw qtk qsv qwa qgi qlo qtu) ++ oW cL o og) (X0_current_T qpc n i) := by
  refine h_enterX (cc := cL_current) (maxL := 4) (by decide) rfl (Nat.le_of_ble_eq_true rfl) ?_
  intro p e s m args below meth c A ls Q hC htab hK hNs hZ hP hD hS hA hl hret
  obtain ⟨hx, hb, hml, hown, hts⟩ := id hC
  have hl : lv_has ls 4 [(0, .ref h), (1, .int i), (2, .ref o)] := hl
  refine lv_aload_n hx hb dL_current_0 rfl (lv_at hl 2 rfl) ?_
  refine lv_iconst (v := 0) hx hb dL_current_1 (by decide) ?_
  refine lv_aload_n hx hb dL_current_2 rfl (lv_at hl 0 rfl) ?_
  refine lv_iload_n hx hb dL_current_3 rfl (lv_at hl 1 rfl) ?_
  refine kf_callX (rest := [.int 0, .ref o]) (q0 := 0) hC (cx_X0_current l hl0 dC dI cI cZ h a qph qgr qne qap qle qfu qpc qgd qri qnw qtk qsv qwa qgi qlo qtu n i hpc hn hbad) (cwV 1 hts gL_current_X0_current rfl rfl rfl hd_X0_current ⟨Nat.le_of_ble_eq_true rfl, Nat.le_of_ble_eq_true rfl⟩) (k_sub3 hK) hNs hZ hP hD hS hA rfl rfl rfl hl.1 (Nat.le_of_ble_eq_true rfl) dL_current_4 rfl ⟨Nat.le_of_ble_eq_true rfl, Nat.le_of_ble_eq_true rfl⟩ (fun E ce q H locs hex hP hD hS hcell hv hcl => ?_)
  obtain ⟨hT, rfl⟩ := hex
  refine vx_catch (name := nIO) hown [] ⟨0, 9, 12, 31⟩ [] (by rw [htab]; rfl) (fun z hz => nomatch hz) (by decide) (by decide) (hts (.classLink RL 31 nIO) (by decide +kernel)) (va_Nw.use rfl hNs.2.1.2.2) hcell hv hcl ?_
  refine lv_astore_n (lv' := [(3, .ref q), (0, .ref h), (1, .int i), (2, .ref o)]) hx hb dL_current_12 rfl hl (by decide) rfl (fun ls hl => ?_)
  refine lv_iconst (v := 1) hx hb dL_current_13 (by decide) ?_
  exact hret H locs _ ls 1 hS hP hD hT.symm dL_current_14
abbrev rmL_load : Room := { frames := 7, cells := 0, slots := 0, locals := 144 }
set_option maxHeartbeats 4000000 in
set_option maxRecDepth 100000 in
theorem c_L_load (l : Launch) (dC : Nat → ClassId) (dI : Nat → Nat → Nat) (cI cZ cL : ClassId) (h : Nat) (a : Nat → Nat) (qph : AR) (qgr : AR) (qne : AR) (qap : AR) (qle : AR) (qfu : AR) (qpc : Int32) (qgd : Int32) (qri : Int32) (qnw : Int32) (qtk : Int32) (qsv : Int32) (qwa : AR) (qgi : AR) (qlo : AR) (qtu : AR) (n : Nat) (f : Int32) (o : Nat) (og : Nat → Int64) (hpc : qpc = nI n) (hn : n ≤ 8) (hok : (X0_load_T n f) = 0) : Hok l yL_load wsL_load rmL_load dC dI cI cZ cL [.ref h, .int f, .ref o] ((xW cI cZ h a qph qgr qne qap qle qfu qpc qgd qri qnw qtk qsv qwa qgi qlo qtu) ++ oW cL o og) ((xW cI cZ h a qph qgr qne qap qle qfu qpc qgd qri qnw qtk qsv ((X0_load qph qgr qne qap qle qfu qgd qri qnw qwa qgi qlo qtu n f).2.1) ((X0_load qph qgr qne qap qle qfu qgd qri qnw qwa qgi qlo qtu n f).2.2.1) ((X0_load qph qgr qne qap qle qfu qgd qri qnw qwa qgi qlo qtu n f).2.2.2.1) ((X0_load qph qgr qne qap qle qfu qgd qri qnw qwa qgi qlo qtu n f).2.2.2.2)) ++ oW cL o (vp_updL og (0 : Int32).toNatClampNeg ((X0_load qph qgr qne qap qle qfu qgd qri qnw qwa qgi qlo qtu n f).1).toInt64)) := by
  refine h_enter (cc := cL_load) (maxL := 4) (by decide) rfl (Nat.le_of_ble_eq_true rfl) ?_
  intro p e s m args below meth c A ls Q hC hK hP hD hS hA hl hret
  obtain ⟨hx, hb, hml, hown, hts⟩ := id hC
  have hl : lv_has ls 4 [(0, .ref h), (1, .int f), (2, .ref o)] := hl
  refine lv_aload_n hx hb dL_load_0 rfl (lv_at hl 2 rfl) ?_
  refine lv_iconst (v := 0) hx hb dL_load_1 (by decide) ?_
  refine lv_aload_n hx hb dL_load_2 rfl (lv_at hl 0 rfl) ?_
  refine lv_iload_n hx hb dL_load_3 rfl (lv_at hl 1 rfl) ?_
  refine kf_calli (rest := [.int 0, .ref o]) (q0 := 0) hC (c_X0_load l dC dI cI cZ h a qph qgr qne qap qle qfu qpc qgd qri qnw qtk qsv qwa qgi qlo qtu n f hpc hn hok) (cwV 1 hts gL_load_X0_load rfl rfl rfl hd_X0_load ⟨Nat.le_of_ble_eq_true rfl, Nat.le_of_ble_eq_true rfl⟩) (k_sub3 hK) hP hD hS hA rfl rfl rfl hl.1 (Nat.le_of_ble_eq_true rfl) dL_load_4 rfl ⟨Nat.zero_le _, Nat.zero_le _⟩ (fun H locs hP hD hS => ?_)
  refine lv_i2l hx hb dL_load_7 rfl ?_
  refine va_last (f := og) hx hb hK hP hD hS 11 2 rfl rfl vpc0_1 dL_load_8 (fun H locs hP hD hS => ?_)
  have hP : va_P (dC, dI) vwCl ((xW cI cZ h a qph qgr qne qap qle qfu qpc qgd qri qnw qtk qsv ((X0_load qph qgr qne qap qle qfu qgd qri qnw qwa qgi qlo qtu n f).2.1) ((X0_load qph qgr qne qap qle qfu qgd qri qnw qwa qgi qlo qtu n f).2.2.1) ((X0_load qph qgr qne qap qle qfu qgd qri qnw qwa qgi qlo qtu n f).2.2.2.1) ((X0_load qph qgr qne qap qle qfu qgd qri qnw qwa qgi qlo qtu n f).2.2.2.2)) ++ oW cL o (vp_updL og (0 : Int32).toNatClampNeg ((X0_load qph qgr qne qap qle qfu qgd qri qnw qwa qgi qlo qtu n f).1).toInt64)) H := hP
  have hD : va_D A ((xW cI cZ h a qph qgr qne qap qle qfu qpc qgd qri qnw qtk qsv ((X0_load qph qgr qne qap qle qfu qgd qri qnw qwa qgi qlo qtu n f).2.1) ((X0_load qph qgr qne qap qle qfu qgd qri qnw qwa qgi qlo qtu n f).2.2.1) ((X0_load qph qgr qne qap qle qfu qgd qri qnw qwa qgi qlo qtu n f).2.2.2.1) ((X0_load qph qgr qne qap qle qfu qgd qri qnw qwa qgi qlo qtu n f).2.2.2.2)) ++ oW cL o (vp_updL og (0 : Int32).toNatClampNeg ((X0_load qph qgr qne qap qle qfu qgd qri qnw qwa qgi qlo qtu n f).1).toInt64)) := hD
  refine lv_goto (tgt := 15) hx hb dL_load_9 (by decide) ?_
  refine lv_iconst (v := 0) hx hb dL_load_15 (by decide) ?_
  exact hret H locs _ ls hS hP hD dL_load_16
abbrev rmxL_load : Room := { frames := 8, cells := 1, slots := 6, locals := 123 }
set_option maxHeartbeats 4000000 in
set_option maxRecDepth 100000 in
theorem cx_L_load (l : Launch) (hl0 : l.stackTraces = false) (dC : Nat → ClassId) (dI : Nat → Nat → Nat) (cI cZ cL : ClassId) (h : Nat) (a : Nat → Nat) (qph : AR) (qgr : AR) (qne : AR) (qap : AR) (qle : AR) (qfu : AR) (qpc : Int32) (qgd : Int32) (qri : Int32) (qnw : Int32) (qtk : Int32) (qsv : Int32) (qwa : AR) (qgi : AR) (qlo : AR) (qtu : AR) (n : Nat) (f : Int32) (o : Nat) (og : Nat → Int64) (hpc : qpc = nI n) (hn : n ≤ 8) (hbad : ¬ (X0_load_T n f) = 0) : Hbad l yL_load wsL_load rmxL_load dC dI cI cZ cL [.ref h, .int f, .ref o] ((xW cI cZ h a qph qgr qne qap qle qfu qpc qgd qri qnw qtk qsv qwa qgi qlo qtu) ++ oW cL o og) (X0_load_T n f) := by
  refine h_enterX (cc := cL_load) (maxL := 4) (by decide) rfl (Nat.le_of_ble_eq_true rfl) ?_
  intro p e s m args below meth c A ls Q hC htab hK hNs hZ hP hD hS hA hl hret
  obtain ⟨hx, hb, hml, hown, hts⟩ := id hC
  have hl : lv_has ls 4 [(0, .ref h), (1, .int f), (2, .ref o)] := hl
  refine lv_aload_n hx hb dL_load_0 rfl (lv_at hl 2 rfl) ?_
  refine lv_iconst (v := 0) hx hb dL_load_1 (by decide) ?_
  refine lv_aload_n hx hb dL_load_2 rfl (lv_at hl 0 rfl) ?_
  refine lv_iload_n hx hb dL_load_3 rfl (lv_at hl 1 rfl) ?_
  refine kf_callX (rest := [.int 0, .ref o]) (q0 := 0) hC (cx_X0_load l hl0 dC dI cI cZ h a qph qgr qne qap qle qfu qpc qgd qri qnw qtk qsv qwa qgi qlo qtu n f hpc hn hbad) (cwV 1 hts gL_load_X0_load rfl rfl rfl hd_X0_load ⟨Nat.le_of_ble_eq_true rfl, Nat.le_of_ble_eq_true rfl⟩) (k_sub3 hK) hNs hZ hP hD hS hA rfl rfl rfl hl.1 (Nat.le_of_ble_eq_true rfl) dL_load_4 rfl ⟨Nat.le_of_ble_eq_true rfl, Nat.le_of_ble_eq_true rfl⟩ (fun E ce q H locs hex hP hD hS hcell hv hcl => ?_)
  obtain ⟨hT, rfl⟩ := hex
  refine vx_catch (name := nIA) hown [] ⟨0, 9, 12, 13⟩ [] (by rw [htab]; rfl) (fun z hz => nomatch hz) (by decide) (by decide) (hts (.classLink RL 13 nIA) (by decide +kernel)) (va_Nw.use rfl hNs.2.1.1) hcell hv hcl ?_
  refine lv_astore_n (lv' := [(3, .ref q), (0, .ref h), (1, .int f), (2, .ref o)]) hx hb dL_load_12 rfl hl (by decide) rfl (fun ls hl => ?_)
  refine lv_iconst (v := 1) hx hb dL_load_13 (by decide) ?_
  exact hret H locs _ ls 1 hS hP hD hT.symm dL_load_14
abbrev rmL_fairLevel : Room := { frames := 7, cells := 0, slots := 0, locals := 148 }
set_option maxHeartbeats 4000000 in
set_option maxRecDepth 100000 in
theorem c_L_fairLevel (l : Launch) (dC : Nat → ClassId) (dI : Nat → Nat → Nat) (cI cZ cL : ClassId) (h : Nat) (a : Nat → Nat) (qph : AR) (qgr : AR) (qne : AR) (qap : AR) (qle : AR) (qfu : AR) (qpc : Int32) (qgd : Int32) (qri : Int32) (qnw : Int32) (qtk : Int32) (qsv : Int32) (qwa : AR) (qgi : AR) (qlo : AR) (qtu : AR) (n : Nat) (f : Int32) (o : Nat) (og : Nat → Int64) (hpc : qpc = nI n) (hn : n ≤ 8) (hok : (X0_fairLevel_T n f) = 0) : Hok l yL_fairLevel wsL_fairLevel rmL_fairLevel dC dI cI cZ cL [.ref h, .int f, .ref o] ((xW cI cZ h a qph qgr qne qap qle qfu qpc qgd qri qnw qtk qsv qwa qgi qlo qtu) ++ oW cL o og) ((xW cI cZ h a qph qgr qne qap qle qfu qpc qgd qri qnw qtk qsv ((X0_fairLevel qph qgr qne qap qle qfu qgd qri qnw qwa qgi qlo qtu n f).2.1) ((X0_fairLevel qph qgr qne qap qle qfu qgd qri qnw qwa qgi qlo qtu n f).2.2.1) ((X0_fairLevel qph qgr qne qap qle qfu qgd qri qnw qwa qgi qlo qtu n f).2.2.2.1) ((X0_fairLevel qph qgr qne qap qle qfu qgd qri qnw qwa qgi qlo qtu n f).2.2.2.2)) ++ oW cL o (vp_updL og (0 : Int32).toNatClampNeg ((X0_fairLevel qph qgr qne qap qle qfu qgd qri qnw qwa qgi qlo qtu n f).1).toInt64)) := by
  refine h_enter (cc := cL_fairLevel) (maxL := 4) (by decide) rfl (Nat.le_of_ble_eq_true rfl) ?_
  intro p e s m args below meth c A ls Q hC hK hP hD hS hA hl hret
  obtain ⟨hx, hb, hml, hown, hts⟩ := id hC
  have hl : lv_has ls 4 [(0, .ref h), (1, .int f), (2, .ref o)] := hl
  refine lv_aload_n hx hb dL_fairLevel_0 rfl (lv_at hl 2 rfl) ?_
  refine lv_iconst (v := 0) hx hb dL_fairLevel_1 (by decide) ?_
  refine lv_aload_n hx hb dL_fairLevel_2 rfl (lv_at hl 0 rfl) ?_
  refine lv_iload_n hx hb dL_fairLevel_3 rfl (lv_at hl 1 rfl) ?_
  refine kf_calli (rest := [.int 0, .ref o]) (q0 := 0) hC (c_X0_fairLevel l dC dI cI cZ h a qph qgr qne qap qle qfu qpc qgd qri qnw qtk qsv qwa qgi qlo qtu n f hpc hn hok) (cwV 1 hts gL_fairLevel_X0_fairLevel rfl rfl rfl hd_X0_fairLevel ⟨Nat.le_of_ble_eq_true rfl, Nat.le_of_ble_eq_true rfl⟩) (k_sub3 hK) hP hD hS hA rfl rfl rfl hl.1 (Nat.le_of_ble_eq_true rfl) dL_fairLevel_4 rfl ⟨Nat.zero_le _, Nat.zero_le _⟩ (fun H locs hP hD hS => ?_)
  refine lv_i2l hx hb dL_fairLevel_7 rfl ?_
  refine va_last (f := og) hx hb hK hP hD hS 11 2 rfl rfl vpc0_1 dL_fairLevel_8 (fun H locs hP hD hS => ?_)
  have hP : va_P (dC, dI) vwCl ((xW cI cZ h a qph qgr qne qap qle qfu qpc qgd qri qnw qtk qsv ((X0_fairLevel qph qgr qne qap qle qfu qgd qri qnw qwa qgi qlo qtu n f).2.1) ((X0_fairLevel qph qgr qne qap qle qfu qgd qri qnw qwa qgi qlo qtu n f).2.2.1) ((X0_fairLevel qph qgr qne qap qle qfu qgd qri qnw qwa qgi qlo qtu n f).2.2.2.1) ((X0_fairLevel qph qgr qne qap qle qfu qgd qri qnw qwa qgi qlo qtu n f).2.2.2.2)) ++ oW cL o (vp_updL og (0 : Int32).toNatClampNeg ((X0_fairLevel qph qgr qne qap qle qfu qgd qri qnw qwa qgi qlo qtu n f).1).toInt64)) H := hP
  have hD : va_D A ((xW cI cZ h a qph qgr qne qap qle qfu qpc qgd qri qnw qtk qsv ((X0_fairLevel qph qgr qne qap qle qfu qgd qri qnw qwa qgi qlo qtu n f).2.1) ((X0_fairLevel qph qgr qne qap qle qfu qgd qri qnw qwa qgi qlo qtu n f).2.2.1) ((X0_fairLevel qph qgr qne qap qle qfu qgd qri qnw qwa qgi qlo qtu n f).2.2.2.1) ((X0_fairLevel qph qgr qne qap qle qfu qgd qri qnw qwa qgi qlo qtu n f).2.2.2.2)) ++ oW cL o (vp_updL og (0 : Int32).toNatClampNeg ((X0_fairLevel qph qgr qne qap qle qfu qgd qri qnw qwa qgi qlo qtu n f).1).toInt64)) := hD
  refine lv_goto (tgt := 15) hx hb dL_fairLevel_9 (by decide) ?_
  refine lv_iconst (v := 0) hx hb dL_fairLevel_15 (by decide) ?_
  exact hret H locs _ ls hS hP hD dL_fairLevel_16
abbrev rmxL_fairLevel : Room := { frames := 8, cells := 1, slots := 6, locals := 127 }
set_option maxHeartbeats 4000000 in
set_option maxRecDepth 100000 in
theorem cx_L_fairLevel (l : Launch) (hl0 : l.stackTraces = false) (dC : Nat → ClassId) (dI : Nat → Nat → Nat) (cI cZ cL : ClassId) (h : Nat) (a : Nat → Nat) (qph : AR) (qgr : AR) (qne : AR) (qap : AR) (qle : AR) (qfu : AR) (qpc : Int32) (qgd : Int32) (qri : Int32) (qnw : Int32) (qtk : Int32) (qsv : Int32) (qwa : AR) (qgi : AR) (qlo : AR) (qtu : AR) (n : Nat) (f : Int32) (o : Nat) (og : Nat → Int64) (hpc : qpc = nI n) (hn : n ≤ 8) (hbad : ¬ (X0_fairLevel_T n f) = 0) : Hbad l yL_fairLevel wsL_fairLevel rmxL_fairLevel dC dI cI cZ cL [.ref h, .int f, .ref o] ((xW cI cZ h a qph qgr qne qap qle qfu qpc qgd qri qnw qtk qsv qwa qgi qlo qtu) ++ oW cL o og) (X0_fairLevel_T n f) := by
  refine h_enterX (cc := cL_fairLevel) (maxL := 4) (by decide) rfl (Nat.le_of_ble_eq_true rfl) ?_
  intro p e s m args below meth c A ls Q hC htab hK hNs hZ hP hD hS hA hl hret
  obtain ⟨hx, hb, hml, hown, hts⟩ := id hC
  have hl : lv_has ls 4 [(0, .ref h), (1, .int f), (2, .ref o)] := hl
  refine lv_aload_n hx hb dL_fairLevel_0 rfl (lv_at hl 2 rfl) ?_
  refine lv_iconst (v := 0) hx hb dL_fairLevel_1 (by decide) ?_
  refine lv_aload_n hx hb dL_fairLevel_2 rfl (lv_at hl 0 rfl) ?_
  refine lv_iload_n hx hb dL_fairLevel_3 rfl (lv_at hl 1 rfl) ?_
  refine kf_callX (rest := [.int 0, .ref o]) (q0 := 0) hC (cx_X0_fairLevel l hl0 dC dI cI cZ h a qph qgr qne qap qle qfu qpc qgd qri qnw qtk qsv qwa qgi qlo qtu n f hpc hn hbad) (cwV 1 hts gL_fairLevel_X0_fairLevel rfl rfl rfl hd_X0_fairLevel ⟨Nat.le_of_ble_eq_true rfl, Nat.le_of_ble_eq_true rfl⟩) (k_sub3 hK) hNs hZ hP hD hS hA rfl rfl rfl hl.1 (Nat.le_of_ble_eq_true rfl) dL_fairLevel_4 rfl ⟨Nat.le_of_ble_eq_true rfl, Nat.le_of_ble_eq_true rfl⟩ (fun E ce q H locs hex hP hD hS hcell hv hcl => ?_)
  obtain ⟨hT, rfl⟩ := hex
  refine vx_catch (name := nIA) hown [] ⟨0, 9, 12, 13⟩ [] (by rw [htab]; rfl) (fun z hz => nomatch hz) (by decide) (by decide) (hts (.classLink RL 13 nIA) (by decide +kernel)) (va_Nw.use rfl hNs.2.1.1) hcell hv hcl ?_
  refine lv_astore_n (lv' := [(3, .ref q), (0, .ref h), (1, .int f), (2, .ref o)]) hx hb dL_fairLevel_12 rfl hl (by decide) rfl (fun ls hl => ?_)
  refine lv_iconst (v := 1) hx hb dL_fairLevel_13 (by decide) ?_
  exact hret H locs _ ls 1 hS hP hD hT.symm dL_fairLevel_14
