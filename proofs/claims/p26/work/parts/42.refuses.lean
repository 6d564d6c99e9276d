theorem hd_L_refuses : yL_refuses.cls ≠ "java/lang/invoke/MethodHandle" ∧ yL_refuses.cls ≠ "java/lang/invoke/VarHandle" ∧ (parseMethodDescriptor yL_refuses.desc).map (fun d => d.parameters.length) = some 1 := by decide +kernel
abbrev rmL_refuses : Room := { frames := 9, cells := 92, slots := 552, locals := 174 }
theorem rp_zero {qpc : Int32} {n : Nat} (hpc : qpc = nI n) (hn : n ≤ 8) (h1 : 1 ≤ n) : X0_requirePoint_T qpc 0 = 0 := by
  rw [hpc]; exact (pt_iff hn).mpr ⟨0, h1, rfl⟩
theorem rp_neg {qpc x : Int32} (hx : x < 0) : ¬ X0_requirePoint_T qpc x = 0 := by
  rw [X0_requirePoint_T, if_pos hx]; decide
theorem rp_self {qpc : Int32} : ¬ X0_requirePoint_T qpc qpc = 0 := by
  rw [X0_requirePoint_T]
  split
  · decide
  · rw [if_neg (Int32.lt_irrefl)]; decide
theorem rp_most {qpc : Int32} {n : Nat} (hpc : qpc = nI n) (hn : n ≤ 8) : ¬ X0_requirePoint_T qpc 2147483647 = 0 := by
  rw [hpc]; intro h
  obtain ⟨k, hk, e⟩ := (pt_iff hn).mp h
  have e2 := congrArg Int32.toInt e
  rw [nI_toInt (by omega)] at e2
  have e3 : (2147483647 : Int32).toInt = 2147483647 := rfl
  omega
set_option maxHeartbeats 4000000 in
set_option maxRecDepth 100000 in
theorem rf_it0 {p : Program} {l : Launch} {e : Env} {s : State} {m : MethodId} {args : Array Value} {below : List Frame} {meth : Method} {c : Code} {A : Nat → Prop} {Q : State → Prop} {dC : Nat → ClassId} {dI : Nat → Nat → Nat} {cI cZ : ClassId} {h : Nat} {a : Nat → Nat} {qph : AR} {qgr : AR} {qne : AR} {qap : AR} {qle : AR} {qfu : AR} {qpc : Int32} {qgd : Int32} {qri : Int32} {qnw : Int32} {qtk : Int32} {qsv : Int32} {qwa : AR} {qgi : AR} {qlo : AR} {qtu : AR} {n : Nat} {hd : Int32} (hC : CallFix p m c cL_refuses 15 s args wsL_refuses RL) (hl0 : l.stackTraces = false) (hK : va_K (dC, dI) vwCl (kT cI cZ) s) (hNs : kN s) (hZ : kZ A s s.heap) (hA : ∀ q, s.heap.size ≤ q → A q) (hpc : qpc = nI n) (hn : n ≤ 8) (h1 : 1 ≤ n) (hnext : ∀ (H : Heap) (locs : List Loc) (ls : Array Slot), va_P (dC, dI) vwCl (xW cI cZ h a qph qgr qne qap qle qfu qpc qgd qri qnw qtk qsv qwa qgi qlo qtu) H → va_D A (xW cI cZ h a qph qgr qne qap qle qfu qpc qgd qri qnw qtk qsv qwa qgi qlo qtu) → va_S A s.heap H locs → lv_has ls 15 [(6, .int 1), (5, .int 2147483647), (4, .int hd), (3, .int qtk), (2, .int qnw), (1, .int qpc), (0, .ref h)] → W p l e rmL_refuses s m args below meth c H locs 23 138 Q (F0 m 28 ls [])) : ∀ (H : Heap) (locs : List Loc) (ls : Array Slot), va_P (dC, dI) vwCl (xW cI cZ h a qph qgr qne qap qle qfu qpc qgd qri qnw qtk qsv qwa qgi qlo qtu) H → va_D A (xW cI cZ h a qph qgr qne qap qle qfu qpc qgd qri qnw qtk qsv qwa qgi qlo qtu) → va_S A s.heap H locs → lv_has ls 15 [(6, .int 0), (5, .int 2147483647), (4, .int hd), (3, .int qtk), (2, .int qnw), (1, .int qpc), (0, .ref h)] → W p l e rmL_refuses s m args below meth c H locs 0 0 Q (F0 m 28 ls []) := by
  obtain ⟨hx, hb, hml, hown, hts⟩ := id hC
  intro H locs ls hP hD hS hl
  refine lv_iload hx hb dL_refuses_28 (lv_at hl 0 rfl) ?_
  refine lv_iconst (v := 4) hx hb dL_refuses_30 (by decide) ?_
  refine lv_icmp_ge (tgt := 577) hx hb dL_refuses_31 (by decide) (fun c => absurd c (by decide)) (fun _ => ?_)
  refine lv_iload hx hb dL_refuses_34 (lv_at hl 0 rfl) ?_
  refine lv_if_ne (tgt := 43) hx hb dL_refuses_36 (by decide) (fun c => absurd (by decide) c) (fun _ => ?_)
  refine lv_iconst (v := (-1)) hx hb dL_refuses_39 (by decide) ?_
  refine lv_goto (tgt := 59) hx hb dL_refuses_40 (by decide) ?_
  refine lv_istore (lv' := [(7, .int (-1)), (6, .int 0), (5, .int 2147483647), (4, .int hd), (3, .int qtk), (2, .int qnw), (1, .int qpc), (0, .ref h)]) hx hb dL_refuses_59 hl (by decide) rfl (fun ls hl => ?_)
  refine lv_iload hx hb dL_refuses_61 (lv_at hl 1 rfl) ?_
  refine lv_iconst (v := 1) hx hb dL_refuses_63 (by decide) ?_
  refine lv_icmp_ne (tgt := 71) hx hb dL_refuses_64 (by decide) (fun _ => ?_) (fun c => absurd c (by decide))
  refine lv_iload hx hb dL_refuses_71 (lv_at hl 0 rfl) ?_
  refine lv_istore (lv' := [(8, .int (-1)), (7, .int (-1)), (6, .int 0), (5, .int 2147483647), (4, .int hd), (3, .int qtk), (2, .int qnw), (1, .int qpc), (0, .ref h)]) hx hb dL_refuses_73 hl (by decide) rfl (fun ls hl => ?_)
  refine lv_iload hx hb dL_refuses_75 (lv_at hl 2 rfl) ?_
  refine lv_iconst (v := 1) hx hb dL_refuses_77 (by decide) ?_
  refine lv_icmp_ne (tgt := 85) hx hb dL_refuses_78 (by decide) (fun _ => ?_) (fun c => absurd c (by decide))
  refine lv_iload hx hb dL_refuses_85 (lv_at hl 1 rfl) ?_
  refine lv_istore (lv' := [(9, .int (-1)), (8, .int (-1)), (7, .int (-1)), (6, .int 0), (5, .int 2147483647), (4, .int hd), (3, .int qtk), (2, .int qnw), (1, .int qpc), (0, .ref h)]) hx hb dL_refuses_87 hl (by decide) rfl (fun ls hl => ?_)
  refine lv_iload hx hb dL_refuses_89 (lv_at hl 3 rfl) ?_
  refine lv_iconst (v := 1) hx hb dL_refuses_91 (by decide) ?_
  refine lv_icmp_ne (tgt := 100) hx hb dL_refuses_92 (by decide) (fun _ => ?_) (fun c => absurd c (by decide))
  refine lv_iload hx hb dL_refuses_100 (lv_at hl 2 rfl) ?_
  refine lv_istore (lv' := [(10, .int (-1)), (9, .int (-1)), (8, .int (-1)), (7, .int (-1)), (6, .int 0), (5, .int 2147483647), (4, .int hd), (3, .int qtk), (2, .int qnw), (1, .int qpc), (0, .ref h)]) hx hb dL_refuses_102 hl (by decide) rfl (fun ls hl => ?_)
  refine lv_iload hx hb dL_refuses_104 (lv_at hl 4 rfl) ?_
  refine lv_if_ne (tgt := 113) hx hb dL_refuses_106 (by decide) (fun c => absurd (by decide) c) (fun _ => ?_)
  refine lv_iconst (v := 0) hx hb dL_refuses_109 (by decide) ?_
  refine lv_goto (tgt := 126) hx hb dL_refuses_110 (by decide) ?_
  refine lv_istore (lv' := [(11, .int 0), (10, .int (-1)), (9, .int (-1)), (8, .int (-1)), (7, .int (-1)), (6, .int 0), (5, .int 2147483647), (4, .int hd), (3, .int qtk), (2, .int qnw), (1, .int qpc), (0, .ref h)]) hx hb dL_refuses_126 hl (by decide) rfl (fun ls hl => ?_)
  refine lv_iload hx hb dL_refuses_128 (lv_at hl 5 rfl) ?_
  refine lv_if_ne (tgt := 137) hx hb dL_refuses_130 (by decide) (fun c => absurd (by decide) c) (fun _ => ?_)
  refine lv_iconst (v := 0) hx hb dL_refuses_133 (by decide) ?_
  refine lv_goto (tgt := 151) hx hb dL_refuses_134 (by decide) ?_
  refine lv_istore (lv' := [(12, .int 0), (11, .int 0), (10, .int (-1)), (9, .int (-1)), (8, .int (-1)), (7, .int (-1)), (6, .int 0), (5, .int 2147483647), (4, .int hd), (3, .int qtk), (2, .int qnw), (1, .int qpc), (0, .ref h)]) hx hb dL_refuses_151 hl (by decide) rfl (fun ls hl => ?_)
  refine lv_aload_n hx hb dL_refuses_153 rfl (lv_at hl 12 rfl) ?_
  refine lv_iconst (v := 0) hx hb dL_refuses_154 (by decide) ?_
  refine lv_iload hx hb dL_refuses_155 (lv_at hl 6 rfl) ?_
  refine lv_iconst (v := 1) hx hb dL_refuses_157 (by decide) ?_
  refine lv_icmp_ne (tgt := 165) hx hb dL_refuses_158 (by decide) (fun _ => ?_) (fun c => absurd c (by decide))
  refine lv_iload hx hb dL_refuses_165 (lv_at hl 5 rfl) ?_
  refine lv_bipush (v := 6) hx hb dL_refuses_167 (by decide) ?_
  refine lv_iconst (v := 0) hx hb dL_refuses_169 (by decide) ?_
  refine lv_iconst (v := 0) hx hb dL_refuses_170 (by decide) ?_
  refine lk_callH (rest := []) (As := [.ref h, .int 0, .int (-1), .int 6, .int 0, .int 0]) hC (a_point_1 l hl0 dC dI cI cZ h a qph qgr qne qap qle qfu qpc qgd qri qnw qtk qsv qwa qgi qlo qtu n (-1) 6 0 0 hpc hn (by rw [X0_point_T, if_neg (show ¬ ((-1) : Int32) = 3 by decide), if_neg (show ¬ X0_requirePhase_T (-1) = 0 by decide +kernel)])) (vx_cwSW 6 hts gL_refuses_L_act rfl rfl rfl hd_L_act ⟨Nat.le_of_ble_eq_true rfl, Nat.le_of_ble_eq_true rfl⟩) hK hNs hZ hP hD hS hA rfl hl.1 (Nat.le_of_ble_eq_true rfl) dL_refuses_171 rfl ⟨Nat.le_of_ble_eq_true rfl, Nat.le_of_ble_eq_true rfl⟩ (fun w2 H locs hB hP hD hS => ?_)
  subst hB
  refine lv_ldc (v := (-70012)) hx hb hown (hts (.constant RL 65 (-70012)) (by decide +kernel)) dL_refuses_174 ?_
  refine lv_icmp_ne (tgt := 484) hx hb dL_refuses_176 (by decide) (fun c => absurd (by decide) c) (fun _ => ?_)
  refine lv_aload_n hx hb dL_refuses_179 rfl (lv_at hl 12 rfl) ?_
  refine lv_iconst (v := 0) hx hb dL_refuses_180 (by decide) ?_
  refine lv_iconst (v := 0) hx hb dL_refuses_181 (by decide) ?_
  refine lv_iload hx hb dL_refuses_182 (lv_at hl 6 rfl) ?_
  refine lv_if_ne (tgt := 191) hx hb dL_refuses_184 (by decide) (fun c => absurd (by decide) c) (fun _ => ?_)
  refine lv_iconst (v := 5) hx hb dL_refuses_187 (by decide) ?_
  refine lv_goto (tgt := 204) hx hb dL_refuses_188 (by decide) ?_
  refine lv_iconst (v := 0) hx hb dL_refuses_204 (by decide) ?_
  refine lv_iconst (v := 0) hx hb dL_refuses_205 (by decide) ?_
  refine lk_callH (rest := []) (As := [.ref h, .int 0, .int 0, .int 5, .int 0, .int 0]) hC (a_point_1 l hl0 dC dI cI cZ h a qph qgr qne qap qle qfu qpc qgd qri qnw qtk qsv qwa qgi qlo qtu n 0 5 0 0 hpc hn (by rw [X0_point_T, if_neg (show ¬ (0 : Int32) = 3 by decide), if_pos (show X0_requirePhase_T 0 = 0 by decide +kernel), if_neg (show ¬ X0_requireWithin_T 5 6 32 = 0 by decide +kernel)])) (vx_cwSW 6 hts gL_refuses_L_act rfl rfl rfl hd_L_act ⟨Nat.le_of_ble_eq_true rfl, Nat.le_of_ble_eq_true rfl⟩) hK hNs hZ hP hD hS hA rfl hl.1 (Nat.le_of_ble_eq_true rfl) dL_refuses_206 rfl ⟨Nat.le_of_ble_eq_true rfl, Nat.le_of_ble_eq_true rfl⟩ (fun w2 H locs hB hP hD hS => ?_)
  subst hB
  refine lv_ldc (v := (-70012)) hx hb hown (hts (.constant RL 65 (-70012)) (by decide +kernel)) dL_refuses_209 ?_
  refine lv_icmp_ne (tgt := 484) hx hb dL_refuses_211 (by decide) (fun c => absurd (by decide) c) (fun _ => ?_)
  refine lv_aload_n hx hb dL_refuses_214 rfl (lv_at hl 12 rfl) ?_
  refine lv_iconst (v := 1) hx hb dL_refuses_215 (by decide) ?_
  refine lv_iload hx hb dL_refuses_216 (lv_at hl 3 rfl) ?_
  refine lv_iconst (v := 5) hx hb dL_refuses_218 (by decide) ?_
  refine lv_iconst (v := 0) hx hb dL_refuses_219 (by decide) ?_
  refine lv_iconst (v := 0) hx hb dL_refuses_220 (by decide) ?_
  refine lk_callH (rest := []) (As := [.ref h, .int 1, .int (-1), .int 5, .int 0, .int 0]) hC (a_fuse_1 l hl0 dC dI cI cZ h a qph qgr qne qap qle qfu qpc qgd qri qnw qtk qsv qwa qgi qlo qtu  (-1) 5 0 0  (by rw [X0_fuse_T, if_neg (show ¬ X0_requirePhase_T (-1) = 0 by decide +kernel)])) (vx_cwSW 6 hts gL_refuses_L_act rfl rfl rfl hd_L_act ⟨Nat.le_of_ble_eq_true rfl, Nat.le_of_ble_eq_true rfl⟩) hK hNs hZ hP hD hS hA rfl hl.1 (Nat.le_of_ble_eq_true rfl) dL_refuses_221 rfl ⟨Nat.le_of_ble_eq_true rfl, Nat.le_of_ble_eq_true rfl⟩ (fun w2 H locs hB hP hD hS => ?_)
  subst hB
  refine lv_ldc (v := (-70012)) hx hb hown (hts (.constant RL 65 (-70012)) (by decide +kernel)) dL_refuses_224 ?_
  refine lv_icmp_ne (tgt := 484) hx hb dL_refuses_226 (by decide) (fun c => absurd (by decide) c) (fun _ => ?_)
  refine lv_aload_n hx hb dL_refuses_229 rfl (lv_at hl 12 rfl) ?_
  refine lv_iconst (v := 1) hx hb dL_refuses_230 (by decide) ?_
  refine lv_iconst (v := 0) hx hb dL_refuses_231 (by decide) ?_
  refine lv_iload hx hb dL_refuses_232 (lv_at hl 2 rfl) ?_
  refine lv_iconst (v := 0) hx hb dL_refuses_234 (by decide) ?_
  refine lv_iconst (v := 0) hx hb dL_refuses_235 (by decide) ?_
  refine lk_callH (rest := []) (As := [.ref h, .int 1, .int 0, .int (-1), .int 0, .int 0]) hC (a_fuse_1 l hl0 dC dI cI cZ h a qph qgr qne qap qle qfu qpc qgd qri qnw qtk qsv qwa qgi qlo qtu  0 (-1) 0 0  (by rw [X0_fuse_T, if_pos (show X0_requirePhase_T 0 = 0 by decide +kernel), if_neg (show ¬ X0_requireWithin_T (-1) 0 100 = 0 by decide +kernel)])) (vx_cwSW 6 hts gL_refuses_L_act rfl rfl rfl hd_L_act ⟨Nat.le_of_ble_eq_true rfl, Nat.le_of_ble_eq_true rfl⟩) hK hNs hZ hP hD hS hA rfl hl.1 (Nat.le_of_ble_eq_true rfl) dL_refuses_236 rfl ⟨Nat.le_of_ble_eq_true rfl, Nat.le_of_ble_eq_true rfl⟩ (fun w2 H locs hB hP hD hS => ?_)
  subst hB
  refine lv_ldc (v := (-70012)) hx hb hown (hts (.constant RL 65 (-70012)) (by decide +kernel)) dL_refuses_239 ?_
  refine lv_icmp_ne (tgt := 484) hx hb dL_refuses_241 (by decide) (fun c => absurd (by decide) c) (fun _ => ?_)
  refine lv_aload_n hx hb dL_refuses_244 rfl (lv_at hl 12 rfl) ?_
  refine lv_iconst (v := 2) hx hb dL_refuses_245 (by decide) ?_
  refine lv_iload hx hb dL_refuses_246 (lv_at hl 2 rfl) ?_
  refine lv_iconst (v := 0) hx hb dL_refuses_248 (by decide) ?_
  refine lv_iconst (v := 0) hx hb dL_refuses_249 (by decide) ?_
  refine lv_iconst (v := 0) hx hb dL_refuses_250 (by decide) ?_
  refine lk_callH (rest := []) (As := [.ref h, .int 2, .int (-1), .int 0, .int 0, .int 0]) hC (a_balance_1 l hl0 dC dI cI cZ h a qph qgr qne qap qle qfu qpc qgd qri qnw qtk qsv qwa qgi qlo qtu  (-1) 0 0 0  (by rw [X0_balance_T, if_neg (show ¬ X0_requireWithin_T (-1) 0 100 = 0 by decide +kernel)])) (vx_cwSW 6 hts gL_refuses_L_act rfl rfl rfl hd_L_act ⟨Nat.le_of_ble_eq_true rfl, Nat.le_of_ble_eq_true rfl⟩) hK hNs hZ hP hD hS hA rfl hl.1 (Nat.le_of_ble_eq_true rfl) dL_refuses_251 rfl ⟨Nat.le_of_ble_eq_true rfl, Nat.le_of_ble_eq_true rfl⟩ (fun w2 H locs hB hP hD hS => ?_)
  subst hB
  refine lv_ldc (v := (-70012)) hx hb hown (hts (.constant RL 65 (-70012)) (by decide +kernel)) dL_refuses_254 ?_
  refine lv_icmp_ne (tgt := 484) hx hb dL_refuses_256 (by decide) (fun c => absurd (by decide) c) (fun _ => ?_)
  refine lv_aload_n hx hb dL_refuses_259 rfl (lv_at hl 12 rfl) ?_
  refine lv_iconst (v := 3) hx hb dL_refuses_260 (by decide) ?_
  refine lv_iload hx hb dL_refuses_261 (lv_at hl 6 rfl) ?_
  refine lv_iconst (v := 1) hx hb dL_refuses_263 (by decide) ?_
  refine lv_icmp_ne (tgt := 271) hx hb dL_refuses_264 (by decide) (fun _ => ?_) (fun c => absurd c (by decide))
  refine lv_iload hx hb dL_refuses_271 (lv_at hl 5 rfl) ?_
  refine lv_iconst (v := 0) hx hb dL_refuses_273 (by decide) ?_
  refine lv_iconst (v := 0) hx hb dL_refuses_274 (by decide) ?_
  refine lv_iconst (v := 0) hx hb dL_refuses_275 (by decide) ?_
  refine lk_callH (rest := []) (As := [.ref h, .int 3, .int (-1), .int 0, .int 0, .int 0]) hC (a_rule_1 l hl0 dC dI cI cZ h a qph qgr qne qap qle qfu qpc qgd qri qnw qtk qsv qwa qgi qlo qtu  (-1) 0 0 0  (by rw [X0_rule_T, if_neg (show ¬ X0_requireWithin_T (-1) 0 1 = 0 by decide +kernel)])) (vx_cwSW 6 hts gL_refuses_L_act rfl rfl rfl hd_L_act ⟨Nat.le_of_ble_eq_true rfl, Nat.le_of_ble_eq_true rfl⟩) hK hNs hZ hP hD hS hA rfl hl.1 (Nat.le_of_ble_eq_true rfl) dL_refuses_276 rfl ⟨Nat.le_of_ble_eq_true rfl, Nat.le_of_ble_eq_true rfl⟩ (fun w2 H locs hB hP hD hS => ?_)
  subst hB
  refine lv_ldc (v := (-70012)) hx hb hown (hts (.constant RL 65 (-70012)) (by decide +kernel)) dL_refuses_279 ?_
  refine lv_icmp_ne (tgt := 484) hx hb dL_refuses_281 (by decide) (fun c => absurd (by decide) c) (fun _ => ?_)
  refine lv_aload_n hx hb dL_refuses_284 rfl (lv_at hl 12 rfl) ?_
  refine lv_iconst (v := 4) hx hb dL_refuses_285 (by decide) ?_
  refine lv_iload hx hb dL_refuses_286 (lv_at hl 4 rfl) ?_
  refine lv_iconst (v := 0) hx hb dL_refuses_288 (by decide) ?_
  refine lv_iconst (v := 0) hx hb dL_refuses_289 (by decide) ?_
  refine lv_iconst (v := 0) hx hb dL_refuses_290 (by decide) ?_
  refine lk_callH (rest := []) (As := [.ref h, .int 4, .int (-1), .int 0, .int 0, .int 0]) hC (a_plugIn_1 l hl0 dC dI cI cZ h a qph qgr qne qap qle qfu qpc qgd qri qnw qtk qsv qwa qgi qlo qtu n (-1) 0 0 0 hpc hn (by rw [X0_plugIn_T, if_neg (rp_neg (by decide))])) (vx_cwSW 6 hts gL_refuses_L_act rfl rfl rfl hd_L_act ⟨Nat.le_of_ble_eq_true rfl, Nat.le_of_ble_eq_true rfl⟩) hK hNs hZ hP hD hS hA rfl hl.1 (Nat.le_of_ble_eq_true rfl) dL_refuses_291 rfl ⟨Nat.le_of_ble_eq_true rfl, Nat.le_of_ble_eq_true rfl⟩ (fun w2 H locs hB hP hD hS => ?_)
  subst hB
  refine lv_ldc (v := (-70011)) hx hb hown (hts (.constant RL 62 (-70011)) (by decide +kernel)) dL_refuses_294 ?_
  refine lv_icmp_ne (tgt := 484) hx hb dL_refuses_296 (by decide) (fun c => absurd (by decide) c) (fun _ => ?_)
  refine lv_aload_n hx hb dL_refuses_299 rfl (lv_at hl 12 rfl) ?_
  refine lv_iconst (v := 4) hx hb dL_refuses_300 (by decide) ?_
  refine lv_iconst (v := 0) hx hb dL_refuses_301 (by decide) ?_
  refine lv_iload hx hb dL_refuses_302 (lv_at hl 6 rfl) ?_
  refine lv_if_ne (tgt := 311) hx hb dL_refuses_304 (by decide) (fun c => absurd (by decide) c) (fun _ => ?_)
  refine lv_iconst (v := 0) hx hb dL_refuses_307 (by decide) ?_
  refine lv_goto (tgt := 325) hx hb dL_refuses_308 (by decide) ?_
  refine lv_iconst (v := 5) hx hb dL_refuses_325 (by decide) ?_
  refine lv_iconst (v := 5) hx hb dL_refuses_326 (by decide) ?_
  refine lk_callH (rest := []) (As := [.ref h, .int 4, .int 0, .int 0, .int 5, .int 5]) hC (a_plugIn_2 l hl0 dC dI cI cZ h a qph qgr qne qap qle qfu qpc qgd qri qnw qtk qsv qwa qgi qlo qtu n 0 0 5 5 hpc hn (by rw [X0_plugIn_T, if_pos (rp_zero hpc hn h1), if_neg (show ¬ X0_requireWithin_T 0 1 5000 = 0 by decide +kernel)])) (vx_cwSW 6 hts gL_refuses_L_act rfl rfl rfl hd_L_act ⟨Nat.le_of_ble_eq_true rfl, Nat.le_of_ble_eq_true rfl⟩) hK hNs hZ hP hD hS hA rfl hl.1 (Nat.le_of_ble_eq_true rfl) dL_refuses_327 rfl ⟨Nat.le_of_ble_eq_true rfl, Nat.le_of_ble_eq_true rfl⟩ (fun w2 H locs hB hP hD hS => ?_)
  subst hB
  refine lv_ldc (v := (-70012)) hx hb hown (hts (.constant RL 65 (-70012)) (by decide +kernel)) dL_refuses_330 ?_
  refine lv_icmp_ne (tgt := 484) hx hb dL_refuses_332 (by decide) (fun c => absurd (by decide) c) (fun _ => ?_)
  refine lv_aload_n hx hb dL_refuses_335 rfl (lv_at hl 12 rfl) ?_
  refine lv_iconst (v := 4) hx hb dL_refuses_336 (by decide) ?_
  refine lv_iconst (v := 0) hx hb dL_refuses_337 (by decide) ?_
  refine lv_iconst (v := 5) hx hb dL_refuses_338 (by decide) ?_
  refine lv_iload hx hb dL_refuses_339 (lv_at hl 1 rfl) ?_
  refine lv_iconst (v := 5) hx hb dL_refuses_341 (by decide) ?_
  refine lk_callH (rest := []) (As := [.ref h, .int 4, .int 0, .int 5, .int 0, .int 5]) hC (a_plugIn_2 l hl0 dC dI cI cZ h a qph qgr qne qap qle qfu qpc qgd qri qnw qtk qsv qwa qgi qlo qtu n 0 5 0 5 hpc hn (by rw [X0_plugIn_T, if_pos (rp_zero hpc hn h1), if_pos (show X0_requireWithin_T 5 1 5000 = 0 by decide +kernel), if_neg (show ¬ X0_requireWithin_T 0 1 32 = 0 by decide +kernel)])) (vx_cwSW 6 hts gL_refuses_L_act rfl rfl rfl hd_L_act ⟨Nat.le_of_ble_eq_true rfl, Nat.le_of_ble_eq_true rfl⟩) hK hNs hZ hP hD hS hA rfl hl.1 (Nat.le_of_ble_eq_true rfl) dL_refuses_342 rfl ⟨Nat.le_of_ble_eq_true rfl, Nat.le_of_ble_eq_true rfl⟩ (fun w2 H locs hB hP hD hS => ?_)
  subst hB
  refine lv_ldc (v := (-70012)) hx hb hown (hts (.constant RL 65 (-70012)) (by decide +kernel)) dL_refuses_345 ?_
  refine lv_icmp_ne (tgt := 484) hx hb dL_refuses_347 (by decide) (fun c => absurd (by decide) c) (fun _ => ?_)
  refine lv_aload_n hx hb dL_refuses_350 rfl (lv_at hl 12 rfl) ?_
  refine lv_iconst (v := 4) hx hb dL_refuses_351 (by decide) ?_
  refine lv_iconst (v := 0) hx hb dL_refuses_352 (by decide) ?_
  refine lv_iconst (v := 5) hx hb dL_refuses_353 (by decide) ?_
  refine lv_iconst (v := 5) hx hb dL_refuses_354 (by decide) ?_
  refine lv_iload hx hb dL_refuses_355 (lv_at hl 0 rfl) ?_
  refine lk_callH (rest := []) (As := [.ref h, .int 4, .int 0, .int 5, .int 5, .int 0]) hC (a_plugIn_2 l hl0 dC dI cI cZ h a qph qgr qne qap qle qfu qpc qgd qri qnw qtk qsv qwa qgi qlo qtu n 0 5 5 0 hpc hn (by rw [X0_plugIn_T, if_pos (rp_zero hpc hn h1), if_pos (show X0_requireWithin_T 5 1 5000 = 0 by decide +kernel), if_pos (show X0_requireWithin_T 5 1 32 = 0 by decide +kernel), if_neg (show ¬ X0_requireWithin_T 0 1 500 = 0 by decide +kernel)])) (vx_cwSW 6 hts gL_refuses_L_act rfl rfl rfl hd_L_act ⟨Nat.le_of_ble_eq_true rfl, Nat.le_of_ble_eq_true rfl⟩) hK hNs hZ hP hD hS hA rfl hl.1 (Nat.le_of_ble_eq_true rfl) dL_refuses_357 rfl ⟨Nat.le_of_ble_eq_true rfl, Nat.le_of_ble_eq_true rfl⟩ (fun w2 H locs hB hP hD hS => ?_)
  subst hB
  refine lv_ldc (v := (-70012)) hx hb hown (hts (.constant RL 65 (-70012)) (by decide +kernel)) dL_refuses_360 ?_
  refine lv_icmp_ne (tgt := 484) hx hb dL_refuses_362 (by decide) (fun c => absurd (by decide) c) (fun _ => ?_)
  refine lv_aload_n hx hb dL_refuses_365 rfl (lv_at hl 12 rfl) ?_
  refine lv_iconst (v := 5) hx hb dL_refuses_366 (by decide) ?_
  refine lv_iload hx hb dL_refuses_367 (lv_at hl 4 rfl) ?_
  refine lv_iconst (v := 0) hx hb dL_refuses_369 (by decide) ?_
  refine lv_iconst (v := 0) hx hb dL_refuses_370 (by decide) ?_
  refine lv_iconst (v := 0) hx hb dL_refuses_371 (by decide) ?_
  refine lk_callH (rest := []) (As := [.ref h, .int 5, .int (-1), .int 0, .int 0, .int 0]) hC (a_takeOut_1 l hl0 dC dI cI cZ h a qph qgr qne qap qle qfu qpc qgd qri qnw qtk qsv qwa qgi qlo qtu n (-1) 0 0 0 hpc hn (by rw [X0_takeOut_T, if_neg (rp_neg (by decide))])) (vx_cwSW 6 hts gL_refuses_L_act rfl rfl rfl hd_L_act ⟨Nat.le_of_ble_eq_true rfl, Nat.le_of_ble_eq_true rfl⟩) hK hNs hZ hP hD hS hA rfl hl.1 (Nat.le_of_ble_eq_true rfl) dL_refuses_372 rfl ⟨Nat.le_of_ble_eq_true rfl, Nat.le_of_ble_eq_true rfl⟩ (fun w2 H locs hB hP hD hS => ?_)
  subst hB
  refine lv_ldc (v := (-70011)) hx hb hown (hts (.constant RL 62 (-70011)) (by decide +kernel)) dL_refuses_375 ?_
  refine lv_icmp_ne (tgt := 484) hx hb dL_refuses_377 (by decide) (fun c => absurd (by decide) c) (fun _ => ?_)
  refine lv_aload_n hx hb dL_refuses_380 rfl (lv_at hl 12 rfl) ?_
  refine lv_bipush (v := 6) hx hb dL_refuses_381 (by decide) ?_
  refine lv_iload hx hb dL_refuses_383 (lv_at hl 4 rfl) ?_
  refine lv_iconst (v := 0) hx hb dL_refuses_385 (by decide) ?_
  refine lv_iconst (v := 0) hx hb dL_refuses_386 (by decide) ?_
  refine lv_iconst (v := 0) hx hb dL_refuses_387 (by decide) ?_
  refine lk_callH (rest := []) (As := [.ref h, .int 6, .int (-1), .int 0, .int 0, .int 0]) hC (a_appetite_1 l hl0 dC dI cI cZ h a qph qgr qne qap qle qfu qpc qgd qri qnw qtk qsv qwa qgi qlo qtu n (-1) 0 0 0 hpc hn (by rw [X0_appetite_T, if_neg (rp_neg (by decide))])) (vx_cwSW 6 hts gL_refuses_L_act rfl rfl rfl hd_L_act ⟨Nat.le_of_ble_eq_true rfl, Nat.le_of_ble_eq_true rfl⟩) hK hNs hZ hP hD hS hA rfl hl.1 (Nat.le_of_ble_eq_true rfl) dL_refuses_388 rfl ⟨Nat.le_of_ble_eq_true rfl, Nat.le_of_ble_eq_true rfl⟩ (fun w2 H locs hB hP hD hS => ?_)
  subst hB
  refine lv_ldc (v := (-70011)) hx hb hown (hts (.constant RL 62 (-70011)) (by decide +kernel)) dL_refuses_391 ?_
  refine lv_icmp_ne (tgt := 484) hx hb dL_refuses_393 (by decide) (fun c => absurd (by decide) c) (fun _ => ?_)
  refine lv_aload_n hx hb dL_refuses_396 rfl (lv_at hl 12 rfl) ?_
  refine lv_bipush (v := 6) hx hb dL_refuses_397 (by decide) ?_
  refine lv_iconst (v := 0) hx hb dL_refuses_399 (by decide) ?_
  refine lv_iload hx hb dL_refuses_400 (lv_at hl 1 rfl) ?_
  refine lv_iconst (v := 0) hx hb dL_refuses_402 (by decide) ?_
  refine lv_iconst (v := 0) hx hb dL_refuses_403 (by decide) ?_
  refine lk_callH (rest := []) (As := [.ref h, .int 6, .int 0, .int 0, .int 0, .int 0]) hC (a_appetite_2 l hl0 dC dI cI cZ h a qph qgr qne qap qle qfu qpc qgd qri qnw qtk qsv qwa qgi qlo qtu n 0 0 0 0 hpc hn (by rw [X0_appetite_T, if_pos (rp_zero hpc hn h1), if_neg (show ¬ X0_requireWithin_T 0 1 32 = 0 by decide +kernel)])) (vx_cwSW 6 hts gL_refuses_L_act rfl rfl rfl hd_L_act ⟨Nat.le_of_ble_eq_true rfl, Nat.le_of_ble_eq_true rfl⟩) hK hNs hZ hP hD hS hA rfl hl.1 (Nat.le_of_ble_eq_true rfl) dL_refuses_404 rfl ⟨Nat.le_of_ble_eq_true rfl, Nat.le_of_ble_eq_true rfl⟩ (fun w2 H locs hB hP hD hS => ?_)
  subst hB
  refine lv_ldc (v := (-70012)) hx hb hown (hts (.constant RL 65 (-70012)) (by decide +kernel)) dL_refuses_407 ?_
  refine lv_icmp_ne (tgt := 484) hx hb dL_refuses_409 (by decide) (fun c => absurd (by decide) c) (fun _ => ?_)
  refine lv_aload_n hx hb dL_refuses_412 rfl (lv_at hl 12 rfl) ?_
  refine lv_bipush (v := 7) hx hb dL_refuses_413 (by decide) ?_
  refine lv_iload hx hb dL_refuses_415 (lv_at hl 4 rfl) ?_
  refine lv_iconst (v := 0) hx hb dL_refuses_417 (by decide) ?_
  refine lv_iconst (v := 0) hx hb dL_refuses_418 (by decide) ?_
  refine lv_iconst (v := 0) hx hb dL_refuses_419 (by decide) ?_
  refine lk_callH (rest := []) (As := [.ref h, .int 7, .int (-1), .int 0, .int 0, .int 0]) hC (a_stay_1 l hl0 dC dI cI cZ h a qph qgr qne qap qle qfu qpc qgd qri qnw qtk qsv qwa qgi qlo qtu n (-1) 0 0 0 hpc hn (by rw [X0_stay_T, if_neg (rp_neg (by decide))])) (vx_cwSW 6 hts gL_refuses_L_act rfl rfl rfl hd_L_act ⟨Nat.le_of_ble_eq_true rfl, Nat.le_of_ble_eq_true rfl⟩) hK hNs hZ hP hD hS hA rfl hl.1 (Nat.le_of_ble_eq_true rfl) dL_refuses_420 rfl ⟨Nat.le_of_ble_eq_true rfl, Nat.le_of_ble_eq_true rfl⟩ (fun w2 H locs hB hP hD hS => ?_)
  subst hB
  refine lv_ldc (v := (-70011)) hx hb hown (hts (.constant RL 62 (-70011)) (by decide +kernel)) dL_refuses_423 ?_
  refine lv_icmp_ne (tgt := 484) hx hb dL_refuses_425 (by decide) (fun c => absurd (by decide) c) (fun _ => ?_)
  refine lv_aload_n hx hb dL_refuses_428 rfl (lv_at hl 12 rfl) ?_
  refine lv_bipush (v := 7) hx hb dL_refuses_429 (by decide) ?_
  refine lv_iconst (v := 0) hx hb dL_refuses_431 (by decide) ?_
  refine lv_iload hx hb dL_refuses_432 (lv_at hl 0 rfl) ?_
  refine lv_iconst (v := 0) hx hb dL_refuses_434 (by decide) ?_
  refine lv_iconst (v := 0) hx hb dL_refuses_435 (by decide) ?_
  refine lk_callH (rest := []) (As := [.ref h, .int 7, .int 0, .int 0, .int 0, .int 0]) hC (a_stay_2 l hl0 dC dI cI cZ h a qph qgr qne qap qle qfu qpc qgd qri qnw qtk qsv qwa qgi qlo qtu n 0 0 0 0 hpc hn (by rw [X0_stay_T, if_pos (rp_zero hpc hn h1), if_neg (show ¬ X0_requireWithin_T 0 1 500 = 0 by decide +kernel)])) (vx_cwSW 6 hts gL_refuses_L_act rfl rfl rfl hd_L_act ⟨Nat.le_of_ble_eq_true rfl, Nat.le_of_ble_eq_true rfl⟩) hK hNs hZ hP hD hS hA rfl hl.1 (Nat.le_of_ble_eq_true rfl) dL_refuses_436 rfl ⟨Nat.le_of_ble_eq_true rfl, Nat.le_of_ble_eq_true rfl⟩ (fun w2 H locs hB hP hD hS => ?_)
  subst hB
  refine lv_ldc (v := (-70012)) hx hb hown (hts (.constant RL 65 (-70012)) (by decide +kernel)) dL_refuses_439 ?_
  refine lv_icmp_ne (tgt := 484) hx hb dL_refuses_441 (by decide) (fun c => absurd (by decide) c) (fun _ => ?_)
  refine lv_aload_n hx hb dL_refuses_444 rfl (lv_at hl 12 rfl) ?_
  refine lv_bipush (v := 8) hx hb dL_refuses_445 (by decide) ?_
  refine lv_iload hx hb dL_refuses_447 (lv_at hl 6 rfl) ?_
  refine lv_if_ne (tgt := 456) hx hb dL_refuses_449 (by decide) (fun c => absurd (by decide) c) (fun _ => ?_)
  refine lv_iconst (v := 0) hx hb dL_refuses_452 (by decide) ?_
  refine lv_goto (tgt := 469) hx hb dL_refuses_453 (by decide) ?_
  refine lv_iconst (v := 0) hx hb dL_refuses_469 (by decide) ?_
  refine lv_iconst (v := 0) hx hb dL_refuses_470 (by decide) ?_
  refine lv_iconst (v := 0) hx hb dL_refuses_471 (by decide) ?_
  refine lk_callH (rest := []) (As := [.ref h, .int 8, .int 0, .int 0, .int 0, .int 0]) hC (a_step_1 l hl0 dC dI cI cZ h a qph qgr qne qap qle qfu qpc qgd qri qnw qtk qsv qwa qgi qlo qtu n 0 0 0 0 hpc hn (by rw [X0_step_T, if_neg (show ¬ X0_requireWithin_T 0 1 50 = 0 by decide +kernel)])) (vx_cwSW 6 hts gL_refuses_L_act rfl rfl rfl hd_L_act ⟨Nat.le_of_ble_eq_true rfl, Nat.le_of_ble_eq_true rfl⟩) hK hNs hZ hP hD hS hA rfl hl.1 (Nat.le_of_ble_eq_true rfl) dL_refuses_472 rfl ⟨Nat.le_of_ble_eq_true rfl, Nat.le_of_ble_eq_true rfl⟩ (fun w2 H locs hB hP hD hS => ?_)
  subst hB
  refine lv_ldc (v := (-70012)) hx hb hown (hts (.constant RL 65 (-70012)) (by decide +kernel)) dL_refuses_475 ?_
  refine lv_icmp_ne (tgt := 484) hx hb dL_refuses_477 (by decide) (fun c => absurd (by decide) c) (fun _ => ?_)
  refine lv_iconst (v := 1) hx hb dL_refuses_480 (by decide) ?_
  refine lv_goto (tgt := 485) hx hb dL_refuses_481 (by decide) ?_
  refine lv_istore (lv' := [(13, .int 1), (12, .int 0), (11, .int 0), (10, .int (-1)), (9, .int (-1)), (8, .int (-1)), (7, .int (-1)), (6, .int 0), (5, .int 2147483647), (4, .int hd), (3, .int qtk), (2, .int qnw), (1, .int qpc), (0, .ref h)]) hx hb dL_refuses_485 hl (by decide) rfl (fun ls hl => ?_)
  refine lv_bipush (v := 9) hx hb dL_refuses_487 (by decide) ?_
  refine lv_istore (lv' := [(14, .int 9), (13, .int 1), (12, .int 0), (11, .int 0), (10, .int (-1)), (9, .int (-1)), (8, .int (-1)), (7, .int (-1)), (6, .int 0), (5, .int 2147483647), (4, .int hd), (3, .int qtk), (2, .int qnw), (1, .int qpc), (0, .ref h)]) hx hb dL_refuses_489 hl (by decide) rfl (fun ls hl => ?_)
  refine lv_iload hx hb dL_refuses_491 (lv_at hl 0 rfl) ?_
  refine lv_bipush (v := 14) hx hb dL_refuses_493 (by decide) ?_
  refine lv_icmp_ge (tgt := 532) hx hb dL_refuses_495 (by decide) (fun c => absurd c (by decide)) (fun _ => ?_)
  refine lv_iload hx hb dL_refuses_498 (lv_at hl 1 rfl) ?_
  refine lv_if_eq (tgt := 523) hx hb dL_refuses_500 (by decide) (fun c => absurd c (by decide)) (fun _ => ?_)
  refine lv_aload_n hx hb dL_refuses_503 rfl (lv_at hl 14 rfl) ?_
  refine lv_iload hx hb dL_refuses_504 (lv_at hl 0 rfl) ?_
  refine lv_iload hx hb dL_refuses_506 (lv_at hl 6 rfl) ?_
  refine lv_iconst (v := 0) hx hb dL_refuses_508 (by decide) ?_
  refine lv_iconst (v := 0) hx hb dL_refuses_509 (by decide) ?_
  refine lv_iconst (v := 0) hx hb dL_refuses_510 (by decide) ?_
  refine lk_callH (rest := []) (As := [.ref h, .int 9, .int (-1), .int 0, .int 0, .int 0]) hC (a_need_1 l hl0 dC dI cI cZ h a qph qgr qne qap qle qfu qpc qgd qri qnw qtk qsv qwa qgi qlo qtu n (-1) 0 0 0 hpc hn (by rw [X0_need_T, if_neg (rp_neg (by decide))])) (vx_cwSW 6 hts gL_refuses_L_act rfl rfl rfl hd_L_act ⟨Nat.le_of_ble_eq_true rfl, Nat.le_of_ble_eq_true rfl⟩) hK hNs hZ hP hD hS hA rfl hl.1 (Nat.le_of_ble_eq_true rfl) dL_refuses_511 rfl ⟨Nat.le_of_ble_eq_true rfl, Nat.le_of_ble_eq_true rfl⟩ (fun w2 H locs hB hP hD hS => ?_)
  subst hB
  refine lv_ldc (v := (-70011)) hx hb hown (hts (.constant RL 62 (-70011)) (by decide +kernel)) dL_refuses_514 ?_
  refine lv_icmp_ne (tgt := 523) hx hb dL_refuses_516 (by decide) (fun c => absurd (by decide) c) (fun _ => ?_)
  refine lv_iconst (v := 1) hx hb dL_refuses_519 (by decide) ?_
  refine lv_goto (tgt := 524) hx hb dL_refuses_520 (by decide) ?_
  refine lv_istore (lv' := [(13, .int 1), (14, .int 9), (12, .int 0), (11, .int 0), (10, .int (-1)), (9, .int (-1)), (8, .int (-1)), (7, .int (-1)), (6, .int 0), (5, .int 2147483647), (4, .int hd), (3, .int qtk), (2, .int qnw), (1, .int qpc), (0, .ref h)]) hx hb dL_refuses_524 hl (by decide) rfl (fun ls hl => ?_)
  refine lv_iinc (v := 10) (lv' := [(14, .int 10), (13, .int 1), (12, .int 0), (11, .int 0), (10, .int (-1)), (9, .int (-1)), (8, .int (-1)), (7, .int (-1)), (6, .int 0), (5, .int 2147483647), (4, .int hd), (3, .int qtk), (2, .int qnw), (1, .int qpc), (0, .ref h)]) hx hb dL_refuses_526 hl (k := 1) rfl (by decide) (by decide) rfl (fun ls hl => ?_)
  refine lv_goto (tgt := 491) hx hb dL_refuses_529 (by decide) ?_
  refine lv_iload hx hb dL_refuses_491 (lv_at hl 0 rfl) ?_
  refine lv_bipush (v := 14) hx hb dL_refuses_493 (by decide) ?_
  refine lv_icmp_ge (tgt := 532) hx hb dL_refuses_495 (by decide) (fun c => absurd c (by decide)) (fun _ => ?_)
  refine lv_iload hx hb dL_refuses_498 (lv_at hl 1 rfl) ?_
  refine lv_if_eq (tgt := 523) hx hb dL_refuses_500 (by decide) (fun c => absurd c (by decide)) (fun _ => ?_)
  refine lv_aload_n hx hb dL_refuses_503 rfl (lv_at hl 14 rfl) ?_
  refine lv_iload hx hb dL_refuses_504 (lv_at hl 0 rfl) ?_
  refine lv_iload hx hb dL_refuses_506 (lv_at hl 6 rfl) ?_
  refine lv_iconst (v := 0) hx hb dL_refuses_508 (by decide) ?_
  refine lv_iconst (v := 0) hx hb dL_refuses_509 (by decide) ?_
  refine lv_iconst (v := 0) hx hb dL_refuses_510 (by decide) ?_
  refine lk_callH (rest := []) (As := [.ref h, .int 10, .int (-1), .int 0, .int 0, .int 0]) hC (a_left_1 l hl0 dC dI cI cZ h a qph qgr qne qap qle qfu qpc qgd qri qnw qtk qsv qwa qgi qlo qtu n (-1) 0 0 0 hpc hn (by rw [X0_left_T, if_neg (rp_neg (by decide))])) (vx_cwSW 6 hts gL_refuses_L_act rfl rfl rfl hd_L_act ⟨Nat.le_of_ble_eq_true rfl, Nat.le_of_ble_eq_true rfl⟩) hK hNs hZ hP hD hS hA rfl hl.1 (Nat.le_of_ble_eq_true rfl) dL_refuses_511 rfl ⟨Nat.le_of_ble_eq_true rfl, Nat.le_of_ble_eq_true rfl⟩ (fun w2 H locs hB hP hD hS => ?_)
  subst hB
  refine lv_ldc (v := (-70011)) hx hb hown (hts (.constant RL 62 (-70011)) (by decide +kernel)) dL_refuses_514 ?_
  refine lv_icmp_ne (tgt := 523) hx hb dL_refuses_516 (by decide) (fun c => absurd (by decide) c) (fun _ => ?_)
  refine lv_iconst (v := 1) hx hb dL_refuses_519 (by decide) ?_
  refine lv_goto (tgt := 524) hx hb dL_refuses_520 (by decide) ?_
  refine lv_istore (lv' := [(13, .int 1), (14, .int 10), (12, .int 0), (11, .int 0), (10, .int (-1)), (9, .int (-1)), (8, .int (-1)), (7, .int (-1)), (6, .int 0), (5, .int 2147483647), (4, .int hd), (3, .int qtk), (2, .int qnw), (1, .int qpc), (0, .ref h)]) hx hb dL_refuses_524 hl (by decide) rfl (fun ls hl => ?_)
  refine lv_iinc (v := 11) (lv' := [(14, .int 11), (13, .int 1), (12, .int 0), (11, .int 0), (10, .int (-1)), (9, .int (-1)), (8, .int (-1)), (7, .int (-1)), (6, .int 0), (5, .int 2147483647), (4, .int hd), (3, .int qtk), (2, .int qnw), (1, .int qpc), (0, .ref h)]) hx hb dL_refuses_526 hl (k := 1) rfl (by decide) (by decide) rfl (fun ls hl => ?_)
  refine lv_goto (tgt := 491) hx hb dL_refuses_529 (by decide) ?_
  refine lv_iload hx hb dL_refuses_491 (lv_at hl 0 rfl) ?_
  refine lv_bipush (v := 14) hx hb dL_refuses_493 (by decide) ?_
  refine lv_icmp_ge (tgt := 532) hx hb dL_refuses_495 (by decide) (fun c => absurd c (by decide)) (fun _ => ?_)
  refine lv_iload hx hb dL_refuses_498 (lv_at hl 1 rfl) ?_
  refine lv_if_eq (tgt := 523) hx hb dL_refuses_500 (by decide) (fun c => absurd c (by decide)) (fun _ => ?_)
  refine lv_aload_n hx hb dL_refuses_503 rfl (lv_at hl 14 rfl) ?_
  refine lv_iload hx hb dL_refuses_504 (lv_at hl 0 rfl) ?_
  refine lv_iload hx hb dL_refuses_506 (lv_at hl 6 rfl) ?_
  refine lv_iconst (v := 0) hx hb dL_refuses_508 (by decide) ?_
  refine lv_iconst (v := 0) hx hb dL_refuses_509 (by decide) ?_
  refine lv_iconst (v := 0) hx hb dL_refuses_510 (by decide) ?_
  refine lk_callH (rest := []) (As := [.ref h, .int 11, .int (-1), .int 0, .int 0, .int 0]) hC (a_laxity_1 l hl0 dC dI cI cZ h a qph qgr qne qap qle qfu qpc qgd qri qnw qtk qsv qwa qgi qlo qtu n (-1) 0 0 0 hpc hn (by rw [X0_laxity_T, if_neg (rp_neg (by decide))])) (vx_cwSW 6 hts gL_refuses_L_act rfl rfl rfl hd_L_act ⟨Nat.le_of_ble_eq_true rfl, Nat.le_of_ble_eq_true rfl⟩) hK hNs hZ hP hD hS hA rfl hl.1 (Nat.le_of_ble_eq_true rfl) dL_refuses_511 rfl ⟨Nat.le_of_ble_eq_true rfl, Nat.le_of_ble_eq_true rfl⟩ (fun w2 H locs hB hP hD hS => ?_)
  subst hB
  refine lv_ldc (v := (-70011)) hx hb hown (hts (.constant RL 62 (-70011)) (by decide +kernel)) dL_refuses_514 ?_
  refine lv_icmp_ne (tgt := 523) hx hb dL_refuses_516 (by decide) (fun c => absurd (by decide) c) (fun _ => ?_)
  refine lv_iconst (v := 1) hx hb dL_refuses_519 (by decide) ?_
  refine lv_goto (tgt := 524) hx hb dL_refuses_520 (by decide) ?_
  refine lv_istore (lv' := [(13, .int 1), (14, .int 11), (12, .int 0), (11, .int 0), (10, .int (-1)), (9, .int (-1)), (8, .int (-1)), (7, .int (-1)), (6, .int 0), (5, .int 2147483647), (4, .int hd), (3, .int qtk), (2, .int qnw), (1, .int qpc), (0, .ref h)]) hx hb dL_refuses_524 hl (by decide) rfl (fun ls hl => ?_)
  refine lv_iinc (v := 12) (lv' := [(14, .int 12), (13, .int 1), (12, .int 0), (11, .int 0), (10, .int (-1)), (9, .int (-1)), (8, .int (-1)), (7, .int (-1)), (6, .int 0), (5, .int 2147483647), (4, .int hd), (3, .int qtk), (2, .int qnw), (1, .int qpc), (0, .ref h)]) hx hb dL_refuses_526 hl (k := 1) rfl (by decide) (by decide) rfl (fun ls hl => ?_)
  refine lv_goto (tgt := 491) hx hb dL_refuses_529 (by decide) ?_
  refine lv_iload hx hb dL_refuses_491 (lv_at hl 0 rfl) ?_
  refine lv_bipush (v := 14) hx hb dL_refuses_493 (by decide) ?_
  refine lv_icmp_ge (tgt := 532) hx hb dL_refuses_495 (by decide) (fun c => absurd c (by decide)) (fun _ => ?_)
  refine lv_iload hx hb dL_refuses_498 (lv_at hl 1 rfl) ?_
  refine lv_if_eq (tgt := 523) hx hb dL_refuses_500 (by decide) (fun c => absurd c (by decide)) (fun _ => ?_)
  refine lv_aload_n hx hb dL_refuses_503 rfl (lv_at hl 14 rfl) ?_
  refine lv_iload hx hb dL_refuses_504 (lv_at hl 0 rfl) ?_
  refine lv_iload hx hb dL_refuses_506 (lv_at hl 6 rfl) ?_
  refine lv_iconst (v := 0) hx hb dL_refuses_508 (by decide) ?_
  refine lv_iconst (v := 0) hx hb dL_refuses_509 (by decide) ?_
  refine lv_iconst (v := 0) hx hb dL_refuses_510 (by decide) ?_
  refine lk_callH (rest := []) (As := [.ref h, .int 12, .int (-1), .int 0, .int 0, .int 0]) hC (a_reach_1 l hl0 dC dI cI cZ h a qph qgr qne qap qle qfu qpc qgd qri qnw qtk qsv qwa qgi qlo qtu n (-1) 0 0 0 hpc hn (by rw [X0_reach_T, if_neg (rp_neg (by decide))])) (vx_cwSW 6 hts gL_refuses_L_act rfl rfl rfl hd_L_act ⟨Nat.le_of_ble_eq_true rfl, Nat.le_of_ble_eq_true rfl⟩) hK hNs hZ hP hD hS hA rfl hl.1 (Nat.le_of_ble_eq_true rfl) dL_refuses_511 rfl ⟨Nat.le_of_ble_eq_true rfl, Nat.le_of_ble_eq_true rfl⟩ (fun w2 H locs hB hP hD hS => ?_)
  subst hB
  refine lv_ldc (v := (-70011)) hx hb hown (hts (.constant RL 62 (-70011)) (by decide +kernel)) dL_refuses_514 ?_
  refine lv_icmp_ne (tgt := 523) hx hb dL_refuses_516 (by decide) (fun c => absurd (by decide) c) (fun _ => ?_)
  refine lv_iconst (v := 1) hx hb dL_refuses_519 (by decide) ?_
  refine lv_goto (tgt := 524) hx hb dL_refuses_520 (by decide) ?_
  refine lv_istore (lv' := [(13, .int 1), (14, .int 12), (12, .int 0), (11, .int 0), (10, .int (-1)), (9, .int (-1)), (8, .int (-1)), (7, .int (-1)), (6, .int 0), (5, .int 2147483647), (4, .int hd), (3, .int qtk), (2, .int qnw), (1, .int qpc), (0, .ref h)]) hx hb dL_refuses_524 hl (by decide) rfl (fun ls hl => ?_)
  refine lv_iinc (v := 13) (lv' := [(14, .int 13), (13, .int 1), (12, .int 0), (11, .int 0), (10, .int (-1)), (9, .int (-1)), (8, .int (-1)), (7, .int (-1)), (6, .int 0), (5, .int 2147483647), (4, .int hd), (3, .int qtk), (2, .int qnw), (1, .int qpc), (0, .ref h)]) hx hb dL_refuses_526 hl (k := 1) rfl (by decide) (by decide) rfl (fun ls hl => ?_)
  refine lv_goto (tgt := 491) hx hb dL_refuses_529 (by decide) ?_
  refine lv_iload hx hb dL_refuses_491 (lv_at hl 0 rfl) ?_
  refine lv_bipush (v := 14) hx hb dL_refuses_493 (by decide) ?_
  refine lv_icmp_ge (tgt := 532) hx hb dL_refuses_495 (by decide) (fun c => absurd c (by decide)) (fun _ => ?_)
  refine lv_iload hx hb dL_refuses_498 (lv_at hl 1 rfl) ?_
  refine lv_if_eq (tgt := 523) hx hb dL_refuses_500 (by decide) (fun c => absurd c (by decide)) (fun _ => ?_)
  refine lv_aload_n hx hb dL_refuses_503 rfl (lv_at hl 14 rfl) ?_
  refine lv_iload hx hb dL_refuses_504 (lv_at hl 0 rfl) ?_
  refine lv_iload hx hb dL_refuses_506 (lv_at hl 6 rfl) ?_
  refine lv_iconst (v := 0) hx hb dL_refuses_508 (by decide) ?_
  refine lv_iconst (v := 0) hx hb dL_refuses_509 (by decide) ?_
  refine lv_iconst (v := 0) hx hb dL_refuses_510 (by decide) ?_
  refine lk_callH (rest := []) (As := [.ref h, .int 13, .int (-1), .int 0, .int 0, .int 0]) hC (a_current_1 l hl0 dC dI cI cZ h a qph qgr qne qap qle qfu qpc qgd qri qnw qtk qsv qwa qgi qlo qtu n (-1) 0 0 0 hpc hn (by rw [X0_current_T, if_neg (rp_neg (by decide))])) (vx_cwSW 6 hts gL_refuses_L_act rfl rfl rfl hd_L_act ⟨Nat.le_of_ble_eq_true rfl, Nat.le_of_ble_eq_true rfl⟩) hK hNs hZ hP hD hS hA rfl hl.1 (Nat.le_of_ble_eq_true rfl) dL_refuses_511 rfl ⟨Nat.le_of_ble_eq_true rfl, Nat.le_of_ble_eq_true rfl⟩ (fun w2 H locs hB hP hD hS => ?_)
  subst hB
  refine lv_ldc (v := (-70011)) hx hb hown (hts (.constant RL 62 (-70011)) (by decide +kernel)) dL_refuses_514 ?_
  refine lv_icmp_ne (tgt := 523) hx hb dL_refuses_516 (by decide) (fun c => absurd (by decide) c) (fun _ => ?_)
  refine lv_iconst (v := 1) hx hb dL_refuses_519 (by decide) ?_
  refine lv_goto (tgt := 524) hx hb dL_refuses_520 (by decide) ?_
  refine lv_istore (lv' := [(13, .int 1), (14, .int 13), (12, .int 0), (11, .int 0), (10, .int (-1)), (9, .int (-1)), (8, .int (-1)), (7, .int (-1)), (6, .int 0), (5, .int 2147483647), (4, .int hd), (3, .int qtk), (2, .int qnw), (1, .int qpc), (0, .ref h)]) hx hb dL_refuses_524 hl (by decide) rfl (fun ls hl => ?_)
  refine lv_iinc (v := 14) (lv' := [(14, .int 14), (13, .int 1), (12, .int 0), (11, .int 0), (10, .int (-1)), (9, .int (-1)), (8, .int (-1)), (7, .int (-1)), (6, .int 0), (5, .int 2147483647), (4, .int hd), (3, .int qtk), (2, .int qnw), (1, .int qpc), (0, .ref h)]) hx hb dL_refuses_526 hl (k := 1) rfl (by decide) (by decide) rfl (fun ls hl => ?_)
  refine lv_goto (tgt := 491) hx hb dL_refuses_529 (by decide) ?_
  refine lv_iload hx hb dL_refuses_491 (lv_at hl 0 rfl) ?_
  refine lv_bipush (v := 14) hx hb dL_refuses_493 (by decide) ?_
  refine lv_icmp_ge (tgt := 532) hx hb dL_refuses_495 (by decide) (fun _ => ?_) (fun c => absurd (by decide) c)
  refine lv_iload hx hb dL_refuses_532 (lv_at hl 1 rfl) ?_
  refine lv_if_eq (tgt := 569) hx hb dL_refuses_534 (by decide) (fun c => absurd c (by decide)) (fun _ => ?_)
  refine lv_aload_n hx hb dL_refuses_537 rfl (lv_at hl 14 rfl) ?_
  refine lv_bipush (v := 14) hx hb dL_refuses_538 (by decide) ?_
  refine lv_iload hx hb dL_refuses_540 (lv_at hl 5 rfl) ?_
  refine lv_iconst (v := 0) hx hb dL_refuses_542 (by decide) ?_
  refine lv_iconst (v := 0) hx hb dL_refuses_543 (by decide) ?_
  refine lv_iconst (v := 0) hx hb dL_refuses_544 (by decide) ?_
  refine lk_callH (rest := []) (As := [.ref h, .int 14, .int (-1), .int 0, .int 0, .int 0]) hC (a_load_1 l hl0 dC dI cI cZ h a qph qgr qne qap qle qfu qpc qgd qri qnw qtk qsv qwa qgi qlo qtu n (-1) 0 0 0 hpc hn (by rw [X0_load_T, if_neg (show ¬ X0_requirePhase_T (-1) = 0 by decide +kernel)])) (vx_cwSW 6 hts gL_refuses_L_act rfl rfl rfl hd_L_act ⟨Nat.le_of_ble_eq_true rfl, Nat.le_of_ble_eq_true rfl⟩) hK hNs hZ hP hD hS hA rfl hl.1 (Nat.le_of_ble_eq_true rfl) dL_refuses_545 rfl ⟨Nat.le_of_ble_eq_true rfl, Nat.le_of_ble_eq_true rfl⟩ (fun w2 H locs hB hP hD hS => ?_)
  subst hB
  refine lv_ldc (v := (-70012)) hx hb hown (hts (.constant RL 65 (-70012)) (by decide +kernel)) dL_refuses_548 ?_
  refine lv_icmp_ne (tgt := 569) hx hb dL_refuses_550 (by decide) (fun c => absurd (by decide) c) (fun _ => ?_)
  refine lv_aload_n hx hb dL_refuses_553 rfl (lv_at hl 14 rfl) ?_
  refine lv_bipush (v := 15) hx hb dL_refuses_554 (by decide) ?_
  refine lv_iload hx hb dL_refuses_556 (lv_at hl 5 rfl) ?_
  refine lv_iconst (v := 0) hx hb dL_refuses_558 (by decide) ?_
  refine lv_iconst (v := 0) hx hb dL_refuses_559 (by decide) ?_
  refine lv_iconst (v := 0) hx hb dL_refuses_560 (by decide) ?_
  refine lk_callH (rest := []) (As := [.ref h, .int 15, .int (-1), .int 0, .int 0, .int 0]) hC (a_fairLevel_1 l hl0 dC dI cI cZ h a qph qgr qne qap qle qfu qpc qgd qri qnw qtk qsv qwa qgi qlo qtu n (-1) 0 0 0 hpc hn (by rw [X0_fairLevel_T, if_neg (show ¬ X0_requirePhase_T (-1) = 0 by decide +kernel)])) (vx_cwSW 6 hts gL_refuses_L_act rfl rfl rfl hd_L_act ⟨Nat.le_of_ble_eq_true rfl, Nat.le_of_ble_eq_true rfl⟩) hK hNs hZ hP hD hS hA rfl hl.1 (Nat.le_of_ble_eq_true rfl) dL_refuses_561 rfl ⟨Nat.le_of_ble_eq_true rfl, Nat.le_of_ble_eq_true rfl⟩ (fun w2 H locs hB hP hD hS => ?_)
  subst hB
  refine lv_ldc (v := (-70012)) hx hb hown (hts (.constant RL 65 (-70012)) (by decide +kernel)) dL_refuses_564 ?_
  refine lv_icmp_eq (tgt := 571) hx hb dL_refuses_566 (by decide) (fun _ => ?_) (fun c => absurd (by decide) c)
  refine lv_iinc (v := 1) (lv' := [(6, .int 1), (14, .int 14), (13, .int 1), (12, .int 0), (11, .int 0), (10, .int (-1)), (9, .int (-1)), (8, .int (-1)), (7, .int (-1)), (5, .int 2147483647), (4, .int hd), (3, .int qtk), (2, .int qnw), (1, .int qpc), (0, .ref h)]) hx hb dL_refuses_571 hl (k := 8) rfl (by decide) (by decide) rfl (fun ls hl => ?_)
  refine lv_goto (tgt := 28) hx hb dL_refuses_574 (by decide) ?_
  exact hnext H locs ls hP hD hS (lv_sub hl [0, 9, 10, 11, 12, 13, 14] rfl)
set_option maxHeartbeats 4000000 in
set_option maxRecDepth 100000 in
theorem rf_it1 {p : Program} {l : Launch} {e : Env} {s : State} {m : MethodId} {args : Array Value} {below : List Frame} {meth : Method} {c : Code} {A : Nat → Prop} {Q : State → Prop} {dC : Nat → ClassId} {dI : Nat → Nat → Nat} {cI cZ : ClassId} {h : Nat} {a : Nat → Nat} {qph : AR} {qgr : AR} {qne : AR} {qap : AR} {qle : AR} {qfu : AR} {qpc : Int32} {qgd : Int32} {qri : Int32} {qnw : Int32} {qtk : Int32} {qsv : Int32} {qwa : AR} {qgi : AR} {qlo : AR} {qtu : AR} {n : Nat} {hd : Int32} (hC : CallFix p m c cL_refuses 15 s args wsL_refuses RL) (hl0 : l.stackTraces = false) (hK : va_K (dC, dI) vwCl (kT cI cZ) s) (hNs : kN s) (hZ : kZ A s s.heap) (hA : ∀ q, s.heap.size ≤ q → A q) (hpc : qpc = nI n) (hn : n ≤ 8) (h1 : 1 ≤ n) (hnext : ∀ (H : Heap) (locs : List Loc) (ls : Array Slot), va_P (dC, dI) vwCl (xW cI cZ h a qph qgr qne qap qle qfu qpc qgd qri qnw qtk qsv qwa qgi qlo qtu) H → va_D A (xW cI cZ h a qph qgr qne qap qle qfu qpc qgd qri qnw qtk qsv qwa qgi qlo qtu) → va_S A s.heap H locs → lv_has ls 15 [(6, .int 2), (5, .int 2147483647), (4, .int hd), (3, .int qtk), (2, .int qnw), (1, .int qpc), (0, .ref h)] → W p l e rmL_refuses s m args below meth c H locs 46 276 Q (F0 m 28 ls [])) : ∀ (H : Heap) (locs : List Loc) (ls : Array Slot), va_P (dC, dI) vwCl (xW cI cZ h a qph qgr qne qap qle qfu qpc qgd qri qnw qtk qsv qwa qgi qlo qtu) H → va_D A (xW cI cZ h a qph qgr qne qap qle qfu qpc qgd qri qnw qtk qsv qwa qgi qlo qtu) → va_S A s.heap H locs → lv_has ls 15 [(6, .int 1), (5, .int 2147483647), (4, .int hd), (3, .int qtk), (2, .int qnw), (1, .int qpc), (0, .ref h)] → W p l e rmL_refuses s m args below meth c H locs 23 138 Q (F0 m 28 ls []) := by
  obtain ⟨hx, hb, hml, hown, hts⟩ := id hC
  intro H locs ls hP hD hS hl
  refine lv_iload hx hb dL_refuses_28 (lv_at hl 0 rfl) ?_
  refine lv_iconst (v := 4) hx hb dL_refuses_30 (by decide) ?_
  refine lv_icmp_ge (tgt := 577) hx hb dL_refuses_31 (by decide) (fun c => absurd c (by decide)) (fun _ => ?_)
  refine lv_iload hx hb dL_refuses_34 (lv_at hl 0 rfl) ?_
  refine lv_if_ne (tgt := 43) hx hb dL_refuses_36 (by decide) (fun _ => ?_) (fun c => absurd c (by decide))
  refine lv_iload hx hb dL_refuses_43 (lv_at hl 0 rfl) ?_
  refine lv_iconst (v := 2) hx hb dL_refuses_45 (by decide) ?_
  refine lv_icmp_ne (tgt := 54) hx hb dL_refuses_46 (by decide) (fun _ => ?_) (fun c => absurd c (by decide))
  refine lv_iload hx hb dL_refuses_54 (lv_at hl 1 rfl) ?_
  refine lv_ineg hx hb dL_refuses_56 ?_
  refine lv_iconst (v := 1) hx hb dL_refuses_57 (by decide) ?_
  refine lv_isub hx hb dL_refuses_58 ?_
  rw [show ((-2147483647) - 1 : Int32) = (-2147483648) from by decide +kernel]
  refine lv_istore (lv' := [(7, .int (-2147483648)), (6, .int 1), (5, .int 2147483647), (4, .int hd), (3, .int qtk), (2, .int qnw), (1, .int qpc), (0, .ref h)]) hx hb dL_refuses_59 hl (by decide) rfl (fun ls hl => ?_)
  refine lv_iload hx hb dL_refuses_61 (lv_at hl 1 rfl) ?_
  refine lv_iconst (v := 1) hx hb dL_refuses_63 (by decide) ?_
  refine lv_icmp_ne (tgt := 71) hx hb dL_refuses_64 (by decide) (fun c => absurd (by decide) c) (fun _ => ?_)
  refine lv_iload_n hx hb dL_refuses_67 rfl (lv_at hl 6 rfl) ?_
  refine lv_goto (tgt := 73) hx hb dL_refuses_68 (by decide) ?_
  refine lv_istore (lv' := [(8, .int qpc), (7, .int (-2147483648)), (6, .int 1), (5, .int 2147483647), (4, .int hd), (3, .int qtk), (2, .int qnw), (1, .int qpc), (0, .ref h)]) hx hb dL_refuses_73 hl (by decide) rfl (fun ls hl => ?_)
  refine lv_iload hx hb dL_refuses_75 (lv_at hl 2 rfl) ?_
  refine lv_iconst (v := 1) hx hb dL_refuses_77 (by decide) ?_
  refine lv_icmp_ne (tgt := 85) hx hb dL_refuses_78 (by decide) (fun c => absurd (by decide) c) (fun _ => ?_)
  refine lv_iconst (v := 3) hx hb dL_refuses_81 (by decide) ?_
  refine lv_goto (tgt := 87) hx hb dL_refuses_82 (by decide) ?_
  refine lv_istore (lv' := [(9, .int 3), (8, .int qpc), (7, .int (-2147483648)), (6, .int 1), (5, .int 2147483647), (4, .int hd), (3, .int qtk), (2, .int qnw), (1, .int qpc), (0, .ref h)]) hx hb dL_refuses_87 hl (by decide) rfl (fun ls hl => ?_)
  refine lv_iload hx hb dL_refuses_89 (lv_at hl 3 rfl) ?_
  refine lv_iconst (v := 1) hx hb dL_refuses_91 (by decide) ?_
  refine lv_icmp_ne (tgt := 100) hx hb dL_refuses_92 (by decide) (fun c => absurd (by decide) c) (fun _ => ?_)
  refine lv_bipush (v := 101) hx hb dL_refuses_95 (by decide) ?_
  refine lv_goto (tgt := 102) hx hb dL_refuses_97 (by decide) ?_
  refine lv_istore (lv' := [(10, .int 101), (9, .int 3), (8, .int qpc), (7, .int (-2147483648)), (6, .int 1), (5, .int 2147483647), (4, .int hd), (3, .int qtk), (2, .int qnw), (1, .int qpc), (0, .ref h)]) hx hb dL_refuses_102 hl (by decide) rfl (fun ls hl => ?_)
  refine lv_iload hx hb dL_refuses_104 (lv_at hl 4 rfl) ?_
  refine lv_if_ne (tgt := 113) hx hb dL_refuses_106 (by decide) (fun _ => ?_) (fun c => absurd c (by decide))
  refine lv_iload hx hb dL_refuses_113 (lv_at hl 4 rfl) ?_
  refine lv_iconst (v := 1) hx hb dL_refuses_115 (by decide) ?_
  refine lv_icmp_ne (tgt := 124) hx hb dL_refuses_116 (by decide) (fun c => absurd (by decide) c) (fun _ => ?_)
  refine lv_bipush (v := 33) hx hb dL_refuses_119 (by decide) ?_
  refine lv_goto (tgt := 126) hx hb dL_refuses_121 (by decide) ?_
  refine lv_istore (lv' := [(11, .int 33), (10, .int 101), (9, .int 3), (8, .int qpc), (7, .int (-2147483648)), (6, .int 1), (5, .int 2147483647), (4, .int hd), (3, .int qtk), (2, .int qnw), (1, .int qpc), (0, .ref h)]) hx hb dL_refuses_126 hl (by decide) rfl (fun ls hl => ?_)
  refine lv_iload hx hb dL_refuses_128 (lv_at hl 5 rfl) ?_
  refine lv_if_ne (tgt := 137) hx hb dL_refuses_130 (by decide) (fun _ => ?_) (fun c => absurd c (by decide))
  refine lv_iload hx hb dL_refuses_137 (lv_at hl 5 rfl) ?_
  refine lv_iconst (v := 1) hx hb dL_refuses_139 (by decide) ?_
  refine lv_icmp_ne (tgt := 149) hx hb dL_refuses_140 (by decide) (fun c => absurd (by decide) c) (fun _ => ?_)
  refine lv_sipush (v := 501) hx hb dL_refuses_143 (by decide) ?_
  refine lv_goto (tgt := 151) hx hb dL_refuses_146 (by decide) ?_
  refine lv_istore (lv' := [(12, .int 501), (11, .int 33), (10, .int 101), (9, .int 3), (8, .int qpc), (7, .int (-2147483648)), (6, .int 1), (5, .int 2147483647), (4, .int hd), (3, .int qtk), (2, .int qnw), (1, .int qpc), (0, .ref h)]) hx hb dL_refuses_151 hl (by decide) rfl (fun ls hl => ?_)
  refine lv_aload_n hx hb dL_refuses_153 rfl (lv_at hl 12 rfl) ?_
  refine lv_iconst (v := 0) hx hb dL_refuses_154 (by decide) ?_
  refine lv_iload hx hb dL_refuses_155 (lv_at hl 6 rfl) ?_
  refine lv_iconst (v := 1) hx hb dL_refuses_157 (by decide) ?_
  refine lv_icmp_ne (tgt := 165) hx hb dL_refuses_158 (by decide) (fun c => absurd (by decide) c) (fun _ => ?_)
  refine lv_iconst (v := 4) hx hb dL_refuses_161 (by decide) ?_
  refine lv_goto (tgt := 167) hx hb dL_refuses_162 (by decide) ?_
  refine lv_bipush (v := 6) hx hb dL_refuses_167 (by decide) ?_
  refine lv_iconst (v := 0) hx hb dL_refuses_169 (by decide) ?_
  refine lv_iconst (v := 0) hx hb dL_refuses_170 (by decide) ?_
  refine lk_callH (rest := []) (As := [.ref h, .int 0, .int 4, .int 6, .int 0, .int 0]) hC (a_point_1 l hl0 dC dI cI cZ h a qph qgr qne qap qle qfu qpc qgd qri qnw qtk qsv qwa qgi qlo qtu n 4 6 0 0 hpc hn (by rw [X0_point_T, if_neg (show ¬ (4 : Int32) = 3 by decide), if_neg (show ¬ X0_requirePhase_T 4 = 0 by decide +kernel)])) (vx_cwSW 6 hts gL_refuses_L_act rfl rfl rfl hd_L_act ⟨Nat.le_of_ble_eq_true rfl, Nat.le_of_ble_eq_true rfl⟩) hK hNs hZ hP hD hS hA rfl hl.1 (Nat.le_of_ble_eq_true rfl) dL_refuses_171 rfl ⟨Nat.le_of_ble_eq_true rfl, Nat.le_of_ble_eq_true rfl⟩ (fun w2 H locs hB hP hD hS => ?_)
  subst hB
  refine lv_ldc (v := (-70012)) hx hb hown (hts (.constant RL 65 (-70012)) (by decide +kernel)) dL_refuses_174 ?_
  refine lv_icmp_ne (tgt := 484) hx hb dL_refuses_176 (by decide) (fun c => absurd (by decide) c) (fun _ => ?_)
  refine lv_aload_n hx hb dL_refuses_179 rfl (lv_at hl 12 rfl) ?_
  refine lv_iconst (v := 0) hx hb dL_refuses_180 (by decide) ?_
  refine lv_iconst (v := 0) hx hb dL_refuses_181 (by decide) ?_
  refine lv_iload hx hb dL_refuses_182 (lv_at hl 6 rfl) ?_
  refine lv_if_ne (tgt := 191) hx hb dL_refuses_184 (by decide) (fun _ => ?_) (fun c => absurd c (by decide))
  refine lv_iload hx hb dL_refuses_191 (lv_at hl 6 rfl) ?_
  refine lv_iconst (v := 1) hx hb dL_refuses_193 (by decide) ?_
  refine lv_icmp_ne (tgt := 202) hx hb dL_refuses_194 (by decide) (fun c => absurd (by decide) c) (fun _ => ?_)
  refine lv_bipush (v := 33) hx hb dL_refuses_197 (by decide) ?_
  refine lv_goto (tgt := 204) hx hb dL_refuses_199 (by decide) ?_
  refine lv_iconst (v := 0) hx hb dL_refuses_204 (by decide) ?_
  refine lv_iconst (v := 0) hx hb dL_refuses_205 (by decide) ?_
  refine lk_callH (rest := []) (As := [.ref h, .int 0, .int 0, .int 33, .int 0, .int 0]) hC (a_point_1 l hl0 dC dI cI cZ h a qph qgr qne qap qle qfu qpc qgd qri qnw qtk qsv qwa qgi qlo qtu n 0 33 0 0 hpc hn (by rw [X0_point_T, if_neg (show ¬ (0 : Int32) = 3 by decide), if_pos (show X0_requirePhase_T 0 = 0 by decide +kernel), if_neg (show ¬ X0_requireWithin_T 33 6 32 = 0 by decide +kernel)])) (vx_cwSW 6 hts gL_refuses_L_act rfl rfl rfl hd_L_act ⟨Nat.le_of_ble_eq_true rfl, Nat.le_of_ble_eq_true rfl⟩) hK hNs hZ hP hD hS hA rfl hl.1 (Nat.le_of_ble_eq_true rfl) dL_refuses_206 rfl ⟨Nat.le_of_ble_eq_true rfl, Nat.le_of_ble_eq_true rfl⟩ (fun w2 H locs hB hP hD hS => ?_)
  subst hB
  refine lv_ldc (v := (-70012)) hx hb hown (hts (.constant RL 65 (-70012)) (by decide +kernel)) dL_refuses_209 ?_
  refine lv_icmp_ne (tgt := 484) hx hb dL_refuses_211 (by decide) (fun c => absurd (by decide) c) (fun _ => ?_)
  refine lv_aload_n hx hb dL_refuses_214 rfl (lv_at hl 12 rfl) ?_
  refine lv_iconst (v := 1) hx hb dL_refuses_215 (by decide) ?_
  refine lv_iload hx hb dL_refuses_216 (lv_at hl 3 rfl) ?_
  refine lv_iconst (v := 5) hx hb dL_refuses_218 (by decide) ?_
  refine lv_iconst (v := 0) hx hb dL_refuses_219 (by decide) ?_
  refine lv_iconst (v := 0) hx hb dL_refuses_220 (by decide) ?_
  refine lk_callH (rest := []) (As := [.ref h, .int 1, .int 3, .int 5, .int 0, .int 0]) hC (a_fuse_1 l hl0 dC dI cI cZ h a qph qgr qne qap qle qfu qpc qgd qri qnw qtk qsv qwa qgi qlo qtu  3 5 0 0  (by rw [X0_fuse_T, if_neg (show ¬ X0_requirePhase_T 3 = 0 by decide +kernel)])) (vx_cwSW 6 hts gL_refuses_L_act rfl rfl rfl hd_L_act ⟨Nat.le_of_ble_eq_true rfl, Nat.le_of_ble_eq_true rfl⟩) hK hNs hZ hP hD hS hA rfl hl.1 (Nat.le_of_ble_eq_true rfl) dL_refuses_221 rfl ⟨Nat.le_of_ble_eq_true rfl, Nat.le_of_ble_eq_true rfl⟩ (fun w2 H locs hB hP hD hS => ?_)
  subst hB
  refine lv_ldc (v := (-70012)) hx hb hown (hts (.constant RL 65 (-70012)) (by decide +kernel)) dL_refuses_224 ?_
  refine lv_icmp_ne (tgt := 484) hx hb dL_refuses_226 (by decide) (fun c => absurd (by decide) c) (fun _ => ?_)
  refine lv_aload_n hx hb dL_refuses_229 rfl (lv_at hl 12 rfl) ?_
  refine lv_iconst (v := 1) hx hb dL_refuses_230 (by decide) ?_
  refine lv_iconst (v := 0) hx hb dL_refuses_231 (by decide) ?_
  refine lv_iload hx hb dL_refuses_232 (lv_at hl 2 rfl) ?_
  refine lv_iconst (v := 0) hx hb dL_refuses_234 (by decide) ?_
  refine lv_iconst (v := 0) hx hb dL_refuses_235 (by decide) ?_
  refine lk_callH (rest := []) (As := [.ref h, .int 1, .int 0, .int 101, .int 0, .int 0]) hC (a_fuse_1 l hl0 dC dI cI cZ h a qph qgr qne qap qle qfu qpc qgd qri qnw qtk qsv qwa qgi qlo qtu  0 101 0 0  (by rw [X0_fuse_T, if_pos (show X0_requirePhase_T 0 = 0 by decide +kernel), if_neg (show ¬ X0_requireWithin_T 101 0 100 = 0 by decide +kernel)])) (vx_cwSW 6 hts gL_refuses_L_act rfl rfl rfl hd_L_act ⟨Nat.le_of_ble_eq_true rfl, Nat.le_of_ble_eq_true rfl⟩) hK hNs hZ hP hD hS hA rfl hl.1 (Nat.le_of_ble_eq_true rfl) dL_refuses_236 rfl ⟨Nat.le_of_ble_eq_true rfl, Nat.le_of_ble_eq_true rfl⟩ (fun w2 H locs hB hP hD hS => ?_)
  subst hB
  refine lv_ldc (v := (-70012)) hx hb hown (hts (.constant RL 65 (-70012)) (by decide +kernel)) dL_refuses_239 ?_
  refine lv_icmp_ne (tgt := 484) hx hb dL_refuses_241 (by decide) (fun c => absurd (by decide) c) (fun _ => ?_)
  refine lv_aload_n hx hb dL_refuses_244 rfl (lv_at hl 12 rfl) ?_
  refine lv_iconst (v := 2) hx hb dL_refuses_245 (by decide) ?_
  refine lv_iload hx hb dL_refuses_246 (lv_at hl 2 rfl) ?_
  refine lv_iconst (v := 0) hx hb dL_refuses_248 (by decide) ?_
  refine lv_iconst (v := 0) hx hb dL_refuses_249 (by decide) ?_
  refine lv_iconst (v := 0) hx hb dL_refuses_250 (by decide) ?_
  refine lk_callH (rest := []) (As := [.ref h, .int 2, .int 101, .int 0, .int 0, .int 0]) hC (a_balance_1 l hl0 dC dI cI cZ h a qph qgr qne qap qle qfu qpc qgd qri qnw qtk qsv qwa qgi qlo qtu  101 0 0 0  (by rw [X0_balance_T, if_neg (show ¬ X0_requireWithin_T 101 0 100 = 0 by decide +kernel)])) (vx_cwSW 6 hts gL_refuses_L_act rfl rfl rfl hd_L_act ⟨Nat.le_of_ble_eq_true rfl, Nat.le_of_ble_eq_true rfl⟩) hK hNs hZ hP hD hS hA rfl hl.1 (Nat.le_of_ble_eq_true rfl) dL_refuses_251 rfl ⟨Nat.le_of_ble_eq_true rfl, Nat.le_of_ble_eq_true rfl⟩ (fun w2 H locs hB hP hD hS => ?_)
  subst hB
  refine lv_ldc (v := (-70012)) hx hb hown (hts (.constant RL 65 (-70012)) (by decide +kernel)) dL_refuses_254 ?_
  refine lv_icmp_ne (tgt := 484) hx hb dL_refuses_256 (by decide) (fun c => absurd (by decide) c) (fun _ => ?_)
  refine lv_aload_n hx hb dL_refuses_259 rfl (lv_at hl 12 rfl) ?_
  refine lv_iconst (v := 3) hx hb dL_refuses_260 (by decide) ?_
  refine lv_iload hx hb dL_refuses_261 (lv_at hl 6 rfl) ?_
  refine lv_iconst (v := 1) hx hb dL_refuses_263 (by decide) ?_
  refine lv_icmp_ne (tgt := 271) hx hb dL_refuses_264 (by decide) (fun c => absurd (by decide) c) (fun _ => ?_)
  refine lv_iconst (v := 2) hx hb dL_refuses_267 (by decide) ?_
  refine lv_goto (tgt := 273) hx hb dL_refuses_268 (by decide) ?_
  refine lv_iconst (v := 0) hx hb dL_refuses_273 (by decide) ?_
  refine lv_iconst (v := 0) hx hb dL_refuses_274 (by decide) ?_
  refine lv_iconst (v := 0) hx hb dL_refuses_275 (by decide) ?_
  refine lk_callH (rest := []) (As := [.ref h, .int 3, .int 2, .int 0, .int 0, .int 0]) hC (a_rule_1 l hl0 dC dI cI cZ h a qph qgr qne qap qle qfu qpc qgd qri qnw qtk qsv qwa qgi qlo qtu  2 0 0 0  (by rw [X0_rule_T, if_neg (show ¬ X0_requireWithin_T 2 0 1 = 0 by decide +kernel)])) (vx_cwSW 6 hts gL_refuses_L_act rfl rfl rfl hd_L_act ⟨Nat.le_of_ble_eq_true rfl, Nat.le_of_ble_eq_true rfl⟩) hK hNs hZ hP hD hS hA rfl hl.1 (Nat.le_of_ble_eq_true rfl) dL_refuses_276 rfl ⟨Nat.le_of_ble_eq_true rfl, Nat.le_of_ble_eq_true rfl⟩ (fun w2 H locs hB hP hD hS => ?_)
  subst hB
  refine lv_ldc (v := (-70012)) hx hb hown (hts (.constant RL 65 (-70012)) (by decide +kernel)) dL_refuses_279 ?_
  refine lv_icmp_ne (tgt := 484) hx hb dL_refuses_281 (by decide) (fun c => absurd (by decide) c) (fun _ => ?_)
  refine lv_aload_n hx hb dL_refuses_284 rfl (lv_at hl 12 rfl) ?_
  refine lv_iconst (v := 4) hx hb dL_refuses_285 (by decide) ?_
  refine lv_iload hx hb dL_refuses_286 (lv_at hl 4 rfl) ?_
  refine lv_iconst (v := 0) hx hb dL_refuses_288 (by decide) ?_
  refine lv_iconst (v := 0) hx hb dL_refuses_289 (by decide) ?_
  refine lv_iconst (v := 0) hx hb dL_refuses_290 (by decide) ?_
  refine lk_callH (rest := []) (As := [.ref h, .int 4, .int qpc, .int 0, .int 0, .int 0]) hC (a_plugIn_1 l hl0 dC dI cI cZ h a qph qgr qne qap qle qfu qpc qgd qri qnw qtk qsv qwa qgi qlo qtu n qpc 0 0 0 hpc hn (by rw [X0_plugIn_T, if_neg rp_self])) (vx_cwSW 6 hts gL_refuses_L_act rfl rfl rfl hd_L_act ⟨Nat.le_of_ble_eq_true rfl, Nat.le_of_ble_eq_true rfl⟩) hK hNs hZ hP hD hS hA rfl hl.1 (Nat.le_of_ble_eq_true rfl) dL_refuses_291 rfl ⟨Nat.le_of_ble_eq_true rfl, Nat.le_of_ble_eq_true rfl⟩ (fun w2 H locs hB hP hD hS => ?_)
  subst hB
  refine lv_ldc (v := (-70011)) hx hb hown (hts (.constant RL 62 (-70011)) (by decide +kernel)) dL_refuses_294 ?_
  refine lv_icmp_ne (tgt := 484) hx hb dL_refuses_296 (by decide) (fun c => absurd (by decide) c) (fun _ => ?_)
  refine lv_aload_n hx hb dL_refuses_299 rfl (lv_at hl 12 rfl) ?_
  refine lv_iconst (v := 4) hx hb dL_refuses_300 (by decide) ?_
  refine lv_iconst (v := 0) hx hb dL_refuses_301 (by decide) ?_
  refine lv_iload hx hb dL_refuses_302 (lv_at hl 6 rfl) ?_
  refine lv_if_ne (tgt := 311) hx hb dL_refuses_304 (by decide) (fun _ => ?_) (fun c => absurd c (by decide))
  refine lv_iload hx hb dL_refuses_311 (lv_at hl 6 rfl) ?_
  refine lv_iconst (v := 1) hx hb dL_refuses_313 (by decide) ?_
  refine lv_icmp_ne (tgt := 323) hx hb dL_refuses_314 (by decide) (fun c => absurd (by decide) c) (fun _ => ?_)
  refine lv_sipush (v := 5001) hx hb dL_refuses_317 (by decide) ?_
  refine lv_goto (tgt := 325) hx hb dL_refuses_320 (by decide) ?_
  refine lv_iconst (v := 5) hx hb dL_refuses_325 (by decide) ?_
  refine lv_iconst (v := 5) hx hb dL_refuses_326 (by decide) ?_
  refine lk_callH (rest := []) (As := [.ref h, .int 4, .int 0, .int 5001, .int 5, .int 5]) hC (a_plugIn_2 l hl0 dC dI cI cZ h a qph qgr qne qap qle qfu qpc qgd qri qnw qtk qsv qwa qgi qlo qtu n 0 5001 5 5 hpc hn (by rw [X0_plugIn_T, if_pos (rp_zero hpc hn h1), if_neg (show ¬ X0_requireWithin_T 5001 1 5000 = 0 by decide +kernel)])) (vx_cwSW 6 hts gL_refuses_L_act rfl rfl rfl hd_L_act ⟨Nat.le_of_ble_eq_true rfl, Nat.le_of_ble_eq_true rfl⟩) hK hNs hZ hP hD hS hA rfl hl.1 (Nat.le_of_ble_eq_true rfl) dL_refuses_327 rfl ⟨Nat.le_of_ble_eq_true rfl, Nat.le_of_ble_eq_true rfl⟩ (fun w2 H locs hB hP hD hS => ?_)
  subst hB
  refine lv_ldc (v := (-70012)) hx hb hown (hts (.constant RL 65 (-70012)) (by decide +kernel)) dL_refuses_330 ?_
  refine lv_icmp_ne (tgt := 484) hx hb dL_refuses_332 (by decide) (fun c => absurd (by decide) c) (fun _ => ?_)
  refine lv_aload_n hx hb dL_refuses_335 rfl (lv_at hl 12 rfl) ?_
  refine lv_iconst (v := 4) hx hb dL_refuses_336 (by decide) ?_
  refine lv_iconst (v := 0) hx hb dL_refuses_337 (by decide) ?_
  refine lv_iconst (v := 5) hx hb dL_refuses_338 (by decide) ?_
  refine lv_iload hx hb dL_refuses_339 (lv_at hl 1 rfl) ?_
  refine lv_iconst (v := 5) hx hb dL_refuses_341 (by decide) ?_
  refine lk_callH (rest := []) (As := [.ref h, .int 4, .int 0, .int 5, .int 33, .int 5]) hC (a_plugIn_2 l hl0 dC dI cI cZ h a qph qgr qne qap qle qfu qpc qgd qri qnw qtk qsv qwa qgi qlo qtu n 0 5 33 5 hpc hn (by rw [X0_plugIn_T, if_pos (rp_zero hpc hn h1), if_pos (show X0_requireWithin_T 5 1 5000 = 0 by decide +kernel), if_neg (show ¬ X0_requireWithin_T 33 1 32 = 0 by decide +kernel)])) (vx_cwSW 6 hts gL_refuses_L_act rfl rfl rfl hd_L_act ⟨Nat.le_of_ble_eq_true rfl, Nat.le_of_ble_eq_true rfl⟩) hK hNs hZ hP hD hS hA rfl hl.1 (Nat.le_of_ble_eq_true rfl) dL_refuses_342 rfl ⟨Nat.le_of_ble_eq_true rfl, Nat.le_of_ble_eq_true rfl⟩ (fun w2 H locs hB hP hD hS => ?_)
  subst hB
  refine lv_ldc (v := (-70012)) hx hb hown (hts (.constant RL 65 (-70012)) (by decide +kernel)) dL_refuses_345 ?_
  refine lv_icmp_ne (tgt := 484) hx hb dL_refuses_347 (by decide) (fun c => absurd (by decide) c) (fun _ => ?_)
  refine lv_aload_n hx hb dL_refuses_350 rfl (lv_at hl 12 rfl) ?_
  refine lv_iconst (v := 4) hx hb dL_refuses_351 (by decide) ?_
  refine lv_iconst (v := 0) hx hb dL_refuses_352 (by decide) ?_
  refine lv_iconst (v := 5) hx hb dL_refuses_353 (by decide) ?_
  refine lv_iconst (v := 5) hx hb dL_refuses_354 (by decide) ?_
  refine lv_iload hx hb dL_refuses_355 (lv_at hl 0 rfl) ?_
  refine lk_callH (rest := []) (As := [.ref h, .int 4, .int 0, .int 5, .int 5, .int 501]) hC (a_plugIn_2 l hl0 dC dI cI cZ h a qph qgr qne qap qle qfu qpc qgd qri qnw qtk qsv qwa qgi qlo qtu n 0 5 5 501 hpc hn (by rw [X0_plugIn_T, if_pos (rp_zero hpc hn h1), if_pos (show X0_requireWithin_T 5 1 5000 = 0 by decide +kernel), if_pos (show X0_requireWithin_T 5 1 32 = 0 by decide +kernel), if_neg (show ¬ X0_requireWithin_T 501 1 500 = 0 by decide +kernel)])) (vx_cwSW 6 hts gL_refuses_L_act rfl rfl rfl hd_L_act ⟨Nat.le_of_ble_eq_true rfl, Nat.le_of_ble_eq_true rfl⟩) hK hNs hZ hP hD hS hA rfl hl.1 (Nat.le_of_ble_eq_true rfl) dL_refuses_357 rfl ⟨Nat.le_of_ble_eq_true rfl, Nat.le_of_ble_eq_true rfl⟩ (fun w2 H locs hB hP hD hS => ?_)
  subst hB
  refine lv_ldc (v := (-70012)) hx hb hown (hts (.constant RL 65 (-70012)) (by decide +kernel)) dL_refuses_360 ?_
  refine lv_icmp_ne (tgt := 484) hx hb dL_refuses_362 (by decide) (fun c => absurd (by decide) c) (fun _ => ?_)
  refine lv_aload_n hx hb dL_refuses_365 rfl (lv_at hl 12 rfl) ?_
  refine lv_iconst (v := 5) hx hb dL_refuses_366 (by decide) ?_
  refine lv_iload hx hb dL_refuses_367 (lv_at hl 4 rfl) ?_
  refine lv_iconst (v := 0) hx hb dL_refuses_369 (by decide) ?_
  refine lv_iconst (v := 0) hx hb dL_refuses_370 (by decide) ?_
  refine lv_iconst (v := 0) hx hb dL_refuses_371 (by decide) ?_
  refine lk_callH (rest := []) (As := [.ref h, .int 5, .int qpc, .int 0, .int 0, .int 0]) hC (a_takeOut_1 l hl0 dC dI cI cZ h a qph qgr qne qap qle qfu qpc qgd qri qnw qtk qsv qwa qgi qlo qtu n qpc 0 0 0 hpc hn (by rw [X0_takeOut_T, if_neg rp_self])) (vx_cwSW 6 hts gL_refuses_L_act rfl rfl rfl hd_L_act ⟨Nat.le_of_ble_eq_true rfl, Nat.le_of_ble_eq_true rfl⟩) hK hNs hZ hP hD hS hA rfl hl.1 (Nat.le_of_ble_eq_true rfl) dL_refuses_372 rfl ⟨Nat.le_of_ble_eq_true rfl, Nat.le_of_ble_eq_true rfl⟩ (fun w2 H locs hB hP hD hS => ?_)
  subst hB
  refine lv_ldc (v := (-70011)) hx hb hown (hts (.constant RL 62 (-70011)) (by decide +kernel)) dL_refuses_375 ?_
  refine lv_icmp_ne (tgt := 484) hx hb dL_refuses_377 (by decide) (fun c => absurd (by decide) c) (fun _ => ?_)
  refine lv_aload_n hx hb dL_refuses_380 rfl (lv_at hl 12 rfl) ?_
  refine lv_bipush (v := 6) hx hb dL_refuses_381 (by decide) ?_
  refine lv_iload hx hb dL_refuses_383 (lv_at hl 4 rfl) ?_
  refine lv_iconst (v := 0) hx hb dL_refuses_385 (by decide) ?_
  refine lv_iconst (v := 0) hx hb dL_refuses_386 (by decide) ?_
  refine lv_iconst (v := 0) hx hb dL_refuses_387 (by decide) ?_
  refine lk_callH (rest := []) (As := [.ref h, .int 6, .int qpc, .int 0, .int 0, .int 0]) hC (a_appetite_1 l hl0 dC dI cI cZ h a qph qgr qne qap qle qfu qpc qgd qri qnw qtk qsv qwa qgi qlo qtu n qpc 0 0 0 hpc hn (by rw [X0_appetite_T, if_neg rp_self])) (vx_cwSW 6 hts gL_refuses_L_act rfl rfl rfl hd_L_act ⟨Nat.le_of_ble_eq_true rfl, Nat.le_of_ble_eq_true rfl⟩) hK hNs hZ hP hD hS hA rfl hl.1 (Nat.le_of_ble_eq_true rfl) dL_refuses_388 rfl ⟨Nat.le_of_ble_eq_true rfl, Nat.le_of_ble_eq_true rfl⟩ (fun w2 H locs hB hP hD hS => ?_)
  subst hB
  refine lv_ldc (v := (-70011)) hx hb hown (hts (.constant RL 62 (-70011)) (by decide +kernel)) dL_refuses_391 ?_
  refine lv_icmp_ne (tgt := 484) hx hb dL_refuses_393 (by decide) (fun c => absurd (by decide) c) (fun _ => ?_)
  refine lv_aload_n hx hb dL_refuses_396 rfl (lv_at hl 12 rfl) ?_
  refine lv_bipush (v := 6) hx hb dL_refuses_397 (by decide) ?_
  refine lv_iconst (v := 0) hx hb dL_refuses_399 (by decide) ?_
  refine lv_iload hx hb dL_refuses_400 (lv_at hl 1 rfl) ?_
  refine lv_iconst (v := 0) hx hb dL_refuses_402 (by decide) ?_
  refine lv_iconst (v := 0) hx hb dL_refuses_403 (by decide) ?_
  refine lk_callH (rest := []) (As := [.ref h, .int 6, .int 0, .int 33, .int 0, .int 0]) hC (a_appetite_2 l hl0 dC dI cI cZ h a qph qgr qne qap qle qfu qpc qgd qri qnw qtk qsv qwa qgi qlo qtu n 0 33 0 0 hpc hn (by rw [X0_appetite_T, if_pos (rp_zero hpc hn h1), if_neg (show ¬ X0_requireWithin_T 33 1 32 = 0 by decide +kernel)])) (vx_cwSW 6 hts gL_refuses_L_act rfl rfl rfl hd_L_act ⟨Nat.le_of_ble_eq_true rfl, Nat.le_of_ble_eq_true rfl⟩) hK hNs hZ hP hD hS hA rfl hl.1 (Nat.le_of_ble_eq_true rfl) dL_refuses_404 rfl ⟨Nat.le_of_ble_eq_true rfl, Nat.le_of_ble_eq_true rfl⟩ (fun w2 H locs hB hP hD hS => ?_)
  subst hB
  refine lv_ldc (v := (-70012)) hx hb hown (hts (.constant RL 65 (-70012)) (by decide +kernel)) dL_refuses_407 ?_
  refine lv_icmp_ne (tgt := 484) hx hb dL_refuses_409 (by decide) (fun c => absurd (by decide) c) (fun _ => ?_)
  refine lv_aload_n hx hb dL_refuses_412 rfl (lv_at hl 12 rfl) ?_
  refine lv_bipush (v := 7) hx hb dL_refuses_413 (by decide) ?_
  refine lv_iload hx hb dL_refuses_415 (lv_at hl 4 rfl) ?_
  refine lv_iconst (v := 0) hx hb dL_refuses_417 (by decide) ?_
  refine lv_iconst (v := 0) hx hb dL_refuses_418 (by decide) ?_
  refine lv_iconst (v := 0) hx hb dL_refuses_419 (by decide) ?_
  refine lk_callH (rest := []) (As := [.ref h, .int 7, .int qpc, .int 0, .int 0, .int 0]) hC (a_stay_1 l hl0 dC dI cI cZ h a qph qgr qne qap qle qfu qpc qgd qri qnw qtk qsv qwa qgi qlo qtu n qpc 0 0 0 hpc hn (by rw [X0_stay_T, if_neg rp_self])) (vx_cwSW 6 hts gL_refuses_L_act rfl rfl rfl hd_L_act ⟨Nat.le_of_ble_eq_true rfl, Nat.le_of_ble_eq_true rfl⟩) hK hNs hZ hP hD hS hA rfl hl.1 (Nat.le_of_ble_eq_true rfl) dL_refuses_420 rfl ⟨Nat.le_of_ble_eq_true rfl, Nat.le_of_ble_eq_true rfl⟩ (fun w2 H locs hB hP hD hS => ?_)
  subst hB
  refine lv_ldc (v := (-70011)) hx hb hown (hts (.constant RL 62 (-70011)) (by decide +kernel)) dL_refuses_423 ?_
  refine lv_icmp_ne (tgt := 484) hx hb dL_refuses_425 (by decide) (fun c => absurd (by decide) c) (fun _ => ?_)
  refine lv_aload_n hx hb dL_refuses_428 rfl (lv_at hl 12 rfl) ?_
  refine lv_bipush (v := 7) hx hb dL_refuses_429 (by decide) ?_
  refine lv_iconst (v := 0) hx hb dL_refuses_431 (by decide) ?_
  refine lv_iload hx hb dL_refuses_432 (lv_at hl 0 rfl) ?_
  refine lv_iconst (v := 0) hx hb dL_refuses_434 (by decide) ?_
  refine lv_iconst (v := 0) hx hb dL_refuses_435 (by decide) ?_
  refine lk_callH (rest := []) (As := [.ref h, .int 7, .int 0, .int 501, .int 0, .int 0]) hC (a_stay_2 l hl0 dC dI cI cZ h a qph qgr qne qap qle qfu qpc qgd qri qnw qtk qsv qwa qgi qlo qtu n 0 501 0 0 hpc hn (by rw [X0_stay_T, if_pos (rp_zero hpc hn h1), if_neg (show ¬ X0_requireWithin_T 501 1 500 = 0 by decide +kernel)])) (vx_cwSW 6 hts gL_refuses_L_act rfl rfl rfl hd_L_act ⟨Nat.le_of_ble_eq_true rfl, Nat.le_of_ble_eq_true rfl⟩) hK hNs hZ hP hD hS hA rfl hl.1 (Nat.le_of_ble_eq_true rfl) dL_refuses_436 rfl ⟨Nat.le_of_ble_eq_true rfl, Nat.le_of_ble_eq_true rfl⟩ (fun w2 H locs hB hP hD hS => ?_)
  subst hB
  refine lv_ldc (v := (-70012)) hx hb hown (hts (.constant RL 65 (-70012)) (by decide +kernel)) dL_refuses_439 ?_
  refine lv_icmp_ne (tgt := 484) hx hb dL_refuses_441 (by decide) (fun c => absurd (by decide) c) (fun _ => ?_)
  refine lv_aload_n hx hb dL_refuses_444 rfl (lv_at hl 12 rfl) ?_
  refine lv_bipush (v := 8) hx hb dL_refuses_445 (by decide) ?_
  refine lv_iload hx hb dL_refuses_447 (lv_at hl 6 rfl) ?_
  refine lv_if_ne (tgt := 456) hx hb dL_refuses_449 (by decide) (fun _ => ?_) (fun c => absurd c (by decide))
  refine lv_iload hx hb dL_refuses_456 (lv_at hl 6 rfl) ?_
  refine lv_iconst (v := 1) hx hb dL_refuses_458 (by decide) ?_
  refine lv_icmp_ne (tgt := 467) hx hb dL_refuses_459 (by decide) (fun c => absurd (by decide) c) (fun _ => ?_)
  refine lv_bipush (v := 51) hx hb dL_refuses_462 (by decide) ?_
  refine lv_goto (tgt := 469) hx hb dL_refuses_464 (by decide) ?_
  refine lv_iconst (v := 0) hx hb dL_refuses_469 (by decide) ?_
  refine lv_iconst (v := 0) hx hb dL_refuses_470 (by decide) ?_
  refine lv_iconst (v := 0) hx hb dL_refuses_471 (by decide) ?_
  refine lk_callH (rest := []) (As := [.ref h, .int 8, .int 51, .int 0, .int 0, .int 0]) hC (a_step_1 l hl0 dC dI cI cZ h a qph qgr qne qap qle qfu qpc qgd qri qnw qtk qsv qwa qgi qlo qtu n 51 0 0 0 hpc hn (by rw [X0_step_T, if_neg (show ¬ X0_requireWithin_T 51 1 50 = 0 by decide +kernel)])) (vx_cwSW 6 hts gL_refuses_L_act rfl rfl rfl hd_L_act ⟨Nat.le_of_ble_eq_true rfl, Nat.le_of_ble_eq_true rfl⟩) hK hNs hZ hP hD hS hA rfl hl.1 (Nat.le_of_ble_eq_true rfl) dL_refuses_472 rfl ⟨Nat.le_of_ble_eq_true rfl, Nat.le_of_ble_eq_true rfl⟩ (fun w2 H locs hB hP hD hS => ?_)
  subst hB
  refine lv_ldc (v := (-70012)) hx hb hown (hts (.constant RL 65 (-70012)) (by decide +kernel)) dL_refuses_475 ?_
  refine lv_icmp_ne (tgt := 484) hx hb dL_refuses_477 (by decide) (fun c => absurd (by decide) c) (fun _ => ?_)
  refine lv_iconst (v := 1) hx hb dL_refuses_480 (by decide) ?_
  refine lv_goto (tgt := 485) hx hb dL_refuses_481 (by decide) ?_
  refine lv_istore (lv' := [(13, .int 1), (12, .int 501), (11, .int 33), (10, .int 101), (9, .int 3), (8, .int qpc), (7, .int (-2147483648)), (6, .int 1), (5, .int 2147483647), (4, .int hd), (3, .int qtk), (2, .int qnw), (1, .int qpc), (0, .ref h)]) hx hb dL_refuses_485 hl (by decide) rfl (fun ls hl => ?_)
  refine lv_bipush (v := 9) hx hb dL_refuses_487 (by decide) ?_
  refine lv_istore (lv' := [(14, .int 9), (13, .int 1), (12, .int 501), (11, .int 33), (10, .int 101), (9, .int 3), (8, .int qpc), (7, .int (-2147483648)), (6, .int 1), (5, .int 2147483647), (4, .int hd), (3, .int qtk), (2, .int qnw), (1, .int qpc), (0, .ref h)]) hx hb dL_refuses_489 hl (by decide) rfl (fun ls hl => ?_)
  refine lv_iload hx hb dL_refuses_491 (lv_at hl 0 rfl) ?_
  refine lv_bipush (v := 14) hx hb dL_refuses_493 (by decide) ?_
  refine lv_icmp_ge (tgt := 532) hx hb dL_refuses_495 (by decide) (fun c => absurd c (by decide)) (fun _ => ?_)
  refine lv_iload hx hb dL_refuses_498 (lv_at hl 1 rfl) ?_
  refine lv_if_eq (tgt := 523) hx hb dL_refuses_500 (by decide) (fun c => absurd c (by decide)) (fun _ => ?_)
  refine lv_aload_n hx hb dL_refuses_503 rfl (lv_at hl 14 rfl) ?_
  refine lv_iload hx hb dL_refuses_504 (lv_at hl 0 rfl) ?_
  refine lv_iload hx hb dL_refuses_506 (lv_at hl 6 rfl) ?_
  refine lv_iconst (v := 0) hx hb dL_refuses_508 (by decide) ?_
  refine lv_iconst (v := 0) hx hb dL_refuses_509 (by decide) ?_
  refine lv_iconst (v := 0) hx hb dL_refuses_510 (by decide) ?_
  refine lk_callH (rest := []) (As := [.ref h, .int 9, .int qpc, .int 0, .int 0, .int 0]) hC (a_need_1 l hl0 dC dI cI cZ h a qph qgr qne qap qle qfu qpc qgd qri qnw qtk qsv qwa qgi qlo qtu n qpc 0 0 0 hpc hn (by rw [X0_need_T, if_neg rp_self])) (vx_cwSW 6 hts gL_refuses_L_act rfl rfl rfl hd_L_act ⟨Nat.le_of_ble_eq_true rfl, Nat.le_of_ble_eq_true rfl⟩) hK hNs hZ hP hD hS hA rfl hl.1 (Nat.le_of_ble_eq_true rfl) dL_refuses_511 rfl ⟨Nat.le_of_ble_eq_true rfl, Nat.le_of_ble_eq_true rfl⟩ (fun w2 H locs hB hP hD hS => ?_)
  subst hB
  refine lv_ldc (v := (-70011)) hx hb hown (hts (.constant RL 62 (-70011)) (by decide +kernel)) dL_refuses_514 ?_
  refine lv_icmp_ne (tgt := 523) hx hb dL_refuses_516 (by decide) (fun c => absurd (by decide) c) (fun _ => ?_)
  refine lv_iconst (v := 1) hx hb dL_refuses_519 (by decide) ?_
  refine lv_goto (tgt := 524) hx hb dL_refuses_520 (by decide) ?_
  refine lv_istore (lv' := [(13, .int 1), (14, .int 9), (12, .int 501), (11, .int 33), (10, .int 101), (9, .int 3), (8, .int qpc), (7, .int (-2147483648)), (6, .int 1), (5, .int 2147483647), (4, .int hd), (3, .int qtk), (2, .int qnw), (1, .int qpc), (0, .ref h)]) hx hb dL_refuses_524 hl (by decide) rfl (fun ls hl => ?_)
  refine lv_iinc (v := 10) (lv' := [(14, .int 10), (13, .int 1), (12, .int 501), (11, .int 33), (10, .int 101), (9, .int 3), (8, .int qpc), (7, .int (-2147483648)), (6, .int 1), (5, .int 2147483647), (4, .int hd), (3, .int qtk), (2, .int qnw), (1, .int qpc), (0, .ref h)]) hx hb dL_refuses_526 hl (k := 1) rfl (by decide) (by decide) rfl (fun ls hl => ?_)
  refine lv_goto (tgt := 491) hx hb dL_refuses_529 (by decide) ?_
  refine lv_iload hx hb dL_refuses_491 (lv_at hl 0 rfl) ?_
  refine lv_bipush (v := 14) hx hb dL_refuses_493 (by decide) ?_
  refine lv_icmp_ge (tgt := 532) hx hb dL_refuses_495 (by decide) (fun c => absurd c (by decide)) (fun _ => ?_)
  refine lv_iload hx hb dL_refuses_498 (lv_at hl 1 rfl) ?_
  refine lv_if_eq (tgt := 523) hx hb dL_refuses_500 (by decide) (fun c => absurd c (by decide)) (fun _ => ?_)
  refine lv_aload_n hx hb dL_refuses_503 rfl (lv_at hl 14 rfl) ?_
  refine lv_iload hx hb dL_refuses_504 (lv_at hl 0 rfl) ?_
  refine lv_iload hx hb dL_refuses_506 (lv_at hl 6 rfl) ?_
  refine lv_iconst (v := 0) hx hb dL_refuses_508 (by decide) ?_
  refine lv_iconst (v := 0) hx hb dL_refuses_509 (by decide) ?_
  refine lv_iconst (v := 0) hx hb dL_refuses_510 (by decide) ?_
  refine lk_callH (rest := []) (As := [.ref h, .int 10, .int qpc, .int 0, .int 0, .int 0]) hC (a_left_1 l hl0 dC dI cI cZ h a qph qgr qne qap qle qfu qpc qgd qri qnw qtk qsv qwa qgi qlo qtu n qpc 0 0 0 hpc hn (by rw [X0_left_T, if_neg rp_self])) (vx_cwSW 6 hts gL_refuses_L_act rfl rfl rfl hd_L_act ⟨Nat.le_of_ble_eq_true rfl, Nat.le_of_ble_eq_true rfl⟩) hK hNs hZ hP hD hS hA rfl hl.1 (Nat.le_of_ble_eq_true rfl) dL_refuses_511 rfl ⟨Nat.le_of_ble_eq_true rfl, Nat.le_of_ble_eq_true rfl⟩ (fun w2 H locs hB hP hD hS => ?_)
  subst hB
  refine lv_ldc (v := (-70011)) hx hb hown (hts (.constant RL 62 (-70011)) (by decide +kernel)) dL_refuses_514 ?_
  refine lv_icmp_ne (tgt := 523) hx hb dL_refuses_516 (by decide) (fun c => absurd (by decide) c) (fun _ => ?_)
  refine lv_iconst (v := 1) hx hb dL_refuses_519 (by decide) ?_
  refine lv_goto (tgt := 524) hx hb dL_refuses_520 (by decide) ?_
  refine lv_istore (lv' := [(13, .int 1), (14, .int 10), (12, .int 501), (11, .int 33), (10, .int 101), (9, .int 3), (8, .int qpc), (7, .int (-2147483648)), (6, .int 1), (5, .int 2147483647), (4, .int hd), (3, .int qtk), (2, .int qnw), (1, .int qpc), (0, .ref h)]) hx hb dL_refuses_524 hl (by decide) rfl (fun ls hl => ?_)
  refine lv_iinc (v := 11) (lv' := [(14, .int 11), (13, .int 1), (12, .int 501), (11, .int 33), (10, .int 101), (9, .int 3), (8, .int qpc), (7, .int (-2147483648)), (6, .int 1), (5, .int 2147483647), (4, .int hd), (3, .int qtk), (2, .int qnw), (1, .int qpc), (0, .ref h)]) hx hb dL_refuses_526 hl (k := 1) rfl (by decide) (by decide) rfl (fun ls hl => ?_)
  refine lv_goto (tgt := 491) hx hb dL_refuses_529 (by decide) ?_
  refine lv_iload hx hb dL_refuses_491 (lv_at hl 0 rfl) ?_
  refine lv_bipush (v := 14) hx hb dL_refuses_493 (by decide) ?_
  refine lv_icmp_ge (tgt := 532) hx hb dL_refuses_495 (by decide) (fun c => absurd c (by decide)) (fun _ => ?_)
  refine lv_iload hx hb dL_refuses_498 (lv_at hl 1 rfl) ?_
  refine lv_if_eq (tgt := 523) hx hb dL_refuses_500 (by decide) (fun c => absurd c (by decide)) (fun _ => ?_)
  refine lv_aload_n hx hb dL_refuses_503 rfl (lv_at hl 14 rfl) ?_
  refine lv_iload hx hb dL_refuses_504 (lv_at hl 0 rfl) ?_
  refine lv_iload hx hb dL_refuses_506 (lv_at hl 6 rfl) ?_
  refine lv_iconst (v := 0) hx hb dL_refuses_508 (by decide) ?_
  refine lv_iconst (v := 0) hx hb dL_refuses_509 (by decide) ?_
  refine lv_iconst (v := 0) hx hb dL_refuses_510 (by decide) ?_
  refine lk_callH (rest := []) (As := [.ref h, .int 11, .int qpc, .int 0, .int 0, .int 0]) hC (a_laxity_1 l hl0 dC dI cI cZ h a qph qgr qne qap qle qfu qpc qgd qri qnw qtk qsv qwa qgi qlo qtu n qpc 0 0 0 hpc hn (by rw [X0_laxity_T, if_neg rp_self])) (vx_cwSW 6 hts gL_refuses_L_act rfl rfl rfl hd_L_act ⟨Nat.le_of_ble_eq_true rfl, Nat.le_of_ble_eq_true rfl⟩) hK hNs hZ hP hD hS hA rfl hl.1 (Nat.le_of_ble_eq_true rfl) dL_refuses_511 rfl ⟨Nat.le_of_ble_eq_true rfl, Nat.le_of_ble_eq_true rfl⟩ (fun w2 H locs hB hP hD hS => ?_)
  subst hB
  refine lv_ldc (v := (-70011)) hx hb hown (hts (.constant RL 62 (-70011)) (by decide +kernel)) dL_refuses_514 ?_
  refine lv_icmp_ne (tgt := 523) hx hb dL_refuses_516 (by decide) (fun c => absurd (by decide) c) (fun _ => ?_)
  refine lv_iconst (v := 1) hx hb dL_refuses_519 (by decide) ?_
  refine lv_goto (tgt := 524) hx hb dL_refuses_520 (by decide) ?_
  refine lv_istore (lv' := [(13, .int 1), (14, .int 11), (12, .int 501), (11, .int 33), (10, .int 101), (9, .int 3), (8, .int qpc), (7, .int (-2147483648)), (6, .int 1), (5, .int 2147483647), (4, .int hd), (3, .int qtk), (2, .int qnw), (1, .int qpc), (0, .ref h)]) hx hb dL_refuses_524 hl (by decide) rfl (fun ls hl => ?_)
  refine lv_iinc (v := 12) (lv' := [(14, .int 12), (13, .int 1), (12, .int 501), (11, .int 33), (10, .int 101), (9, .int 3), (8, .int qpc), (7, .int (-2147483648)), (6, .int 1), (5, .int 2147483647), (4, .int hd), (3, .int qtk), (2, .int qnw), (1, .int qpc), (0, .ref h)]) hx hb dL_refuses_526 hl (k := 1) rfl (by decide) (by decide) rfl (fun ls hl => ?_)
  refine lv_goto (tgt := 491) hx hb dL_refuses_529 (by decide) ?_
  refine lv_iload hx hb dL_refuses_491 (lv_at hl 0 rfl) ?_
  refine lv_bipush (v := 14) hx hb dL_refuses_493 (by decide) ?_
  refine lv_icmp_ge (tgt := 532) hx hb dL_refuses_495 (by decide) (fun c => absurd c (by decide)) (fun _ => ?_)
  refine lv_iload hx hb dL_refuses_498 (lv_at hl 1 rfl) ?_
  refine lv_if_eq (tgt := 523) hx hb dL_refuses_500 (by decide) (fun c => absurd c (by decide)) (fun _ => ?_)
  refine lv_aload_n hx hb dL_refuses_503 rfl (lv_at hl 14 rfl) ?_
  refine lv_iload hx hb dL_refuses_504 (lv_at hl 0 rfl) ?_
  refine lv_iload hx hb dL_refuses_506 (lv_at hl 6 rfl) ?_
  refine lv_iconst (v := 0) hx hb dL_refuses_508 (by decide) ?_
  refine lv_iconst (v := 0) hx hb dL_refuses_509 (by decide) ?_
  refine lv_iconst (v := 0) hx hb dL_refuses_510 (by decide) ?_
  refine lk_callH (rest := []) (As := [.ref h, .int 12, .int qpc, .int 0, .int 0, .int 0]) hC (a_reach_1 l hl0 dC dI cI cZ h a qph qgr qne qap qle qfu qpc qgd qri qnw qtk qsv qwa qgi qlo qtu n qpc 0 0 0 hpc hn (by rw [X0_reach_T, if_neg rp_self])) (vx_cwSW 6 hts gL_refuses_L_act rfl rfl rfl hd_L_act ⟨Nat.le_of_ble_eq_true rfl, Nat.le_of_ble_eq_true rfl⟩) hK hNs hZ hP hD hS hA rfl hl.1 (Nat.le_of_ble_eq_true rfl) dL_refuses_511 rfl ⟨Nat.le_of_ble_eq_true rfl, Nat.le_of_ble_eq_true rfl⟩ (fun w2 H locs hB hP hD hS => ?_)
  subst hB
  refine lv_ldc (v := (-70011)) hx hb hown (hts (.constant RL 62 (-70011)) (by decide +kernel)) dL_refuses_514 ?_
  refine lv_icmp_ne (tgt := 523) hx hb dL_refuses_516 (by decide) (fun c => absurd (by decide) c) (fun _ => ?_)
  refine lv_iconst (v := 1) hx hb dL_refuses_519 (by decide) ?_
  refine lv_goto (tgt := 524) hx hb dL_refuses_520 (by decide) ?_
  refine lv_istore (lv' := [(13, .int 1), (14, .int 12), (12, .int 501), (11, .int 33), (10, .int 101), (9, .int 3), (8, .int qpc), (7, .int (-2147483648)), (6, .int 1), (5, .int 2147483647), (4, .int hd), (3, .int qtk), (2, .int qnw), (1, .int qpc), (0, .ref h)]) hx hb dL_refuses_524 hl (by decide) rfl (fun ls hl => ?_)
  refine lv_iinc (v := 13) (lv' := [(14, .int 13), (13, .int 1), (12, .int 501), (11, .int 33), (10, .int 101), (9, .int 3), (8, .int qpc), (7, .int (-2147483648)), (6, .int 1), (5, .int 2147483647), (4, .int hd), (3, .int qtk), (2, .int qnw), (1, .int qpc), (0, .ref h)]) hx hb dL_refuses_526 hl (k := 1) rfl (by decide) (by decide) rfl (fun ls hl => ?_)
  refine lv_goto (tgt := 491) hx hb dL_refuses_529 (by decide) ?_
  refine lv_iload hx hb dL_refuses_491 (lv_at hl 0 rfl) ?_
  refine lv_bipush (v := 14) hx hb dL_refuses_493 (by decide) ?_
  refine lv_icmp_ge (tgt := 532) hx hb dL_refuses_495 (by decide) (fun c => absurd c (by decide)) (fun _ => ?_)
  refine lv_iload hx hb dL_refuses_498 (lv_at hl 1 rfl) ?_
  refine lv_if_eq (tgt := 523) hx hb dL_refuses_500 (by decide) (fun c => absurd c (by decide)) (fun _ => ?_)
  refine lv_aload_n hx hb dL_refuses_503 rfl (lv_at hl 14 rfl) ?_
  refine lv_iload hx hb dL_refuses_504 (lv_at hl 0 rfl) ?_
  refine lv_iload hx hb dL_refuses_506 (lv_at hl 6 rfl) ?_
  refine lv_iconst (v := 0) hx hb dL_refuses_508 (by decide) ?_
  refine lv_iconst (v := 0) hx hb dL_refuses_509 (by decide) ?_
  refine lv_iconst (v := 0) hx hb dL_refuses_510 (by decide) ?_
  refine lk_callH (rest := []) (As := [.ref h, .int 13, .int qpc, .int 0, .int 0, .int 0]) hC (a_current_1 l hl0 dC dI cI cZ h a qph qgr qne qap qle qfu qpc qgd qri qnw qtk qsv qwa qgi qlo qtu n qpc 0 0 0 hpc hn (by rw [X0_current_T, if_neg rp_self])) (vx_cwSW 6 hts gL_refuses_L_act rfl rfl rfl hd_L_act ⟨Nat.le_of_ble_eq_true rfl, Nat.le_of_ble_eq_true rfl⟩) hK hNs hZ hP hD hS hA rfl hl.1 (Nat.le_of_ble_eq_true rfl) dL_refuses_511 rfl ⟨Nat.le_of_ble_eq_true rfl, Nat.le_of_ble_eq_true rfl⟩ (fun w2 H locs hB hP hD hS => ?_)
  subst hB
  refine lv_ldc (v := (-70011)) hx hb hown (hts (.constant RL 62 (-70011)) (by decide +kernel)) dL_refuses_514 ?_
  refine lv_icmp_ne (tgt := 523) hx hb dL_refuses_516 (by decide) (fun c => absurd (by decide) c) (fun _ => ?_)
  refine lv_iconst (v := 1) hx hb dL_refuses_519 (by decide) ?_
  refine lv_goto (tgt := 524) hx hb dL_refuses_520 (by decide) ?_
  refine lv_istore (lv' := [(13, .int 1), (14, .int 13), (12, .int 501), (11, .int 33), (10, .int 101), (9, .int 3), (8, .int qpc), (7, .int (-2147483648)), (6, .int 1), (5, .int 2147483647), (4, .int hd), (3, .int qtk), (2, .int qnw), (1, .int qpc), (0, .ref h)]) hx hb dL_refuses_524 hl (by decide) rfl (fun ls hl => ?_)
  refine lv_iinc (v := 14) (lv' := [(14, .int 14), (13, .int 1), (12, .int 501), (11, .int 33), (10, .int 101), (9, .int 3), (8, .int qpc), (7, .int (-2147483648)), (6, .int 1), (5, .int 2147483647), (4, .int hd), (3, .int qtk), (2, .int qnw), (1, .int qpc), (0, .ref h)]) hx hb dL_refuses_526 hl (k := 1) rfl (by decide) (by decide) rfl (fun ls hl => ?_)
  refine lv_goto (tgt := 491) hx hb dL_refuses_529 (by decide) ?_
  refine lv_iload hx hb dL_refuses_491 (lv_at hl 0 rfl) ?_
  refine lv_bipush (v := 14) hx hb dL_refuses_493 (by decide) ?_
  refine lv_icmp_ge (tgt := 532) hx hb dL_refuses_495 (by decide) (fun _ => ?_) (fun c => absurd (by decide) c)
  refine lv_iload hx hb dL_refuses_532 (lv_at hl 1 rfl) ?_
  refine lv_if_eq (tgt := 569) hx hb dL_refuses_534 (by decide) (fun c => absurd c (by decide)) (fun _ => ?_)
  refine lv_aload_n hx hb dL_refuses_537 rfl (lv_at hl 14 rfl) ?_
  refine lv_bipush (v := 14) hx hb dL_refuses_538 (by decide) ?_
  refine lv_iload hx hb dL_refuses_540 (lv_at hl 5 rfl) ?_
  refine lv_iconst (v := 0) hx hb dL_refuses_542 (by decide) ?_
  refine lv_iconst (v := 0) hx hb dL_refuses_543 (by decide) ?_
  refine lv_iconst (v := 0) hx hb dL_refuses_544 (by decide) ?_
  refine lk_callH (rest := []) (As := [.ref h, .int 14, .int 3, .int 0, .int 0, .int 0]) hC (a_load_1 l hl0 dC dI cI cZ h a qph qgr qne qap qle qfu qpc qgd qri qnw qtk qsv qwa qgi qlo qtu n 3 0 0 0 hpc hn (by rw [X0_load_T, if_neg (show ¬ X0_requirePhase_T 3 = 0 by decide +kernel)])) (vx_cwSW 6 hts gL_refuses_L_act rfl rfl rfl hd_L_act ⟨Nat.le_of_ble_eq_true rfl, Nat.le_of_ble_eq_true rfl⟩) hK hNs hZ hP hD hS hA rfl hl.1 (Nat.le_of_ble_eq_true rfl) dL_refuses_545 rfl ⟨Nat.le_of_ble_eq_true rfl, Nat.le_of_ble_eq_true rfl⟩ (fun w2 H locs hB hP hD hS => ?_)
  subst hB
  refine lv_ldc (v := (-70012)) hx hb hown (hts (.constant RL 65 (-70012)) (by decide +kernel)) dL_refuses_548 ?_
  refine lv_icmp_ne (tgt := 569) hx hb dL_refuses_550 (by decide) (fun c => absurd (by decide) c) (fun _ => ?_)
  refine lv_aload_n hx hb dL_refuses_553 rfl (lv_at hl 14 rfl) ?_
  refine lv_bipush (v := 15) hx hb dL_refuses_554 (by decide) ?_
  refine lv_iload hx hb dL_refuses_556 (lv_at hl 5 rfl) ?_
  refine lv_iconst (v := 0) hx hb dL_refuses_558 (by decide) ?_
  refine lv_iconst (v := 0) hx hb dL_refuses_559 (by decide) ?_
  refine lv_iconst (v := 0) hx hb dL_refuses_560 (by decide) ?_
  refine lk_callH (rest := []) (As := [.ref h, .int 15, .int 3, .int 0, .int 0, .int 0]) hC (a_fairLevel_1 l hl0 dC dI cI cZ h a qph qgr qne qap qle qfu qpc qgd qri qnw qtk qsv qwa qgi qlo qtu n 3 0 0 0 hpc hn (by rw [X0_fairLevel_T, if_neg (show ¬ X0_requirePhase_T 3 = 0 by decide +kernel)])) (vx_cwSW 6 hts gL_refuses_L_act rfl rfl rfl hd_L_act ⟨Nat.le_of_ble_eq_true rfl, Nat.le_of_ble_eq_true rfl⟩) hK hNs hZ hP hD hS hA rfl hl.1 (Nat.le_of_ble_eq_true rfl) dL_refuses_561 rfl ⟨Nat.le_of_ble_eq_true rfl, Nat.le_of_ble_eq_true rfl⟩ (fun w2 H locs hB hP hD hS => ?_)
  subst hB
  refine lv_ldc (v := (-70012)) hx hb hown (hts (.constant RL 65 (-70012)) (by decide +kernel)) dL_refuses_564 ?_
  refine lv_icmp_eq (tgt := 571) hx hb dL_refuses_566 (by decide) (fun _ => ?_) (fun c => absurd (by decide) c)
  refine lv_iinc (v := 2) (lv' := [(6, .int 2), (14, .int 14), (13, .int 1), (12, .int 501), (11, .int 33), (10, .int 101), (9, .int 3), (8, .int qpc), (7, .int (-2147483648)), (5, .int 2147483647), (4, .int hd), (3, .int qtk), (2, .int qnw), (1, .int qpc), (0, .ref h)]) hx hb dL_refuses_571 hl (k := 8) rfl (by decide) (by decide) rfl (fun ls hl => ?_)
  refine lv_goto (tgt := 28) hx hb dL_refuses_574 (by decide) ?_
  exact hnext H locs ls hP hD hS (lv_sub hl [0, 9, 10, 11, 12, 13, 14] rfl)
set_option maxHeartbeats 4000000 in
set_option maxRecDepth 100000 in
theorem rf_it2 {p : Program} {l : Launch} {e : Env} {s : State} {m : MethodId} {args : Array Value} {below : List Frame} {meth : Method} {c : Code} {A : Nat → Prop} {Q : State → Prop} {dC : Nat → ClassId} {dI : Nat → Nat → Nat} {cI cZ : ClassId} {h : Nat} {a : Nat → Nat} {qph : AR} {qgr : AR} {qne : AR} {qap : AR} {qle : AR} {qfu : AR} {qpc : Int32} {qgd : Int32} {qri : Int32} {qnw : Int32} {qtk : Int32} {qsv : Int32} {qwa : AR} {qgi : AR} {qlo : AR} {qtu : AR} {n : Nat} {hd : Int32} (hC : CallFix p m c cL_refuses 15 s args wsL_refuses RL) (hl0 : l.stackTraces = false) (hK : va_K (dC, dI) vwCl (kT cI cZ) s) (hNs : kN s) (hZ : kZ A s s.heap) (hA : ∀ q, s.heap.size ≤ q → A q) (hpc : qpc = nI n) (hn : n ≤ 8) (h1 : 1 ≤ n) (hnext : ∀ (H : Heap) (locs : List Loc) (ls : Array Slot), va_P (dC, dI) vwCl (xW cI cZ h a qph qgr qne qap qle qfu qpc qgd qri qnw qtk qsv qwa qgi qlo qtu) H → va_D A (xW cI cZ h a qph qgr qne qap qle qfu qpc qgd qri qnw qtk qsv qwa qgi qlo qtu) → va_S A s.heap H locs → lv_has ls 15 [(6, .int 3), (5, .int 2147483647), (4, .int hd), (3, .int qtk), (2, .int qnw), (1, .int qpc), (0, .ref h)] → W p l e rmL_refuses s m args below meth c H locs 69 414 Q (F0 m 28 ls [])) : ∀ (H : Heap) (locs : List Loc) (ls : Array Slot), va_P (dC, dI) vwCl (xW cI cZ h a qph qgr qne qap qle qfu qpc qgd qri qnw qtk qsv qwa qgi qlo qtu) H → va_D A (xW cI cZ h a qph qgr qne qap qle qfu qpc qgd qri qnw qtk qsv qwa qgi qlo qtu) → va_S A s.heap H locs → lv_has ls 15 [(6, .int 2), (5, .int 2147483647), (4, .int hd), (3, .int qtk), (2, .int qnw), (1, .int qpc), (0, .ref h)] → W p l e rmL_refuses s m args below meth c H locs 46 276 Q (F0 m 28 ls []) := by
  obtain ⟨hx, hb, hml, hown, hts⟩ := id hC
  intro H locs ls hP hD hS hl
  refine lv_iload hx hb dL_refuses_28 (lv_at hl 0 rfl) ?_
  refine lv_iconst (v := 4) hx hb dL_refuses_30 (by decide) ?_
  refine lv_icmp_ge (tgt := 577) hx hb dL_refuses_31 (by decide) (fun c => absurd c (by decide)) (fun _ => ?_)
  refine lv_iload hx hb dL_refuses_34 (lv_at hl 0 rfl) ?_
  refine lv_if_ne (tgt := 43) hx hb dL_refuses_36 (by decide) (fun _ => ?_) (fun c => absurd c (by decide))
  refine lv_iload hx hb dL_refuses_43 (lv_at hl 0 rfl) ?_
  refine lv_iconst (v := 2) hx hb dL_refuses_45 (by decide) ?_
  refine lv_icmp_ne (tgt := 54) hx hb dL_refuses_46 (by decide) (fun c => absurd (by decide) c) (fun _ => ?_)
  refine lv_iload hx hb dL_refuses_49 (lv_at hl 1 rfl) ?_
  refine lv_goto (tgt := 59) hx hb dL_refuses_51 (by decide) ?_
  refine lv_istore (lv' := [(7, .int 2147483647), (6, .int 2), (5, .int 2147483647), (4, .int hd), (3, .int qtk), (2, .int qnw), (1, .int qpc), (0, .ref h)]) hx hb dL_refuses_59 hl (by decide) rfl (fun ls hl => ?_)
  refine lv_iload hx hb dL_refuses_61 (lv_at hl 1 rfl) ?_
  refine lv_iconst (v := 1) hx hb dL_refuses_63 (by decide) ?_
  refine lv_icmp_ne (tgt := 71) hx hb dL_refuses_64 (by decide) (fun _ => ?_) (fun c => absurd c (by decide))
  refine lv_iload hx hb dL_refuses_71 (lv_at hl 0 rfl) ?_
  refine lv_istore (lv' := [(8, .int 2147483647), (7, .int 2147483647), (6, .int 2), (5, .int 2147483647), (4, .int hd), (3, .int qtk), (2, .int qnw), (1, .int qpc), (0, .ref h)]) hx hb dL_refuses_73 hl (by decide) rfl (fun ls hl => ?_)
  refine lv_iload hx hb dL_refuses_75 (lv_at hl 2 rfl) ?_
  refine lv_iconst (v := 1) hx hb dL_refuses_77 (by decide) ?_
  refine lv_icmp_ne (tgt := 85) hx hb dL_refuses_78 (by decide) (fun _ => ?_) (fun c => absurd c (by decide))
  refine lv_iload hx hb dL_refuses_85 (lv_at hl 1 rfl) ?_
  refine lv_istore (lv' := [(9, .int 2147483647), (8, .int 2147483647), (7, .int 2147483647), (6, .int 2), (5, .int 2147483647), (4, .int hd), (3, .int qtk), (2, .int qnw), (1, .int qpc), (0, .ref h)]) hx hb dL_refuses_87 hl (by decide) rfl (fun ls hl => ?_)
  refine lv_iload hx hb dL_refuses_89 (lv_at hl 3 rfl) ?_
  refine lv_iconst (v := 1) hx hb dL_refuses_91 (by decide) ?_
  refine lv_icmp_ne (tgt := 100) hx hb dL_refuses_92 (by decide) (fun _ => ?_) (fun c => absurd c (by decide))
  refine lv_iload hx hb dL_refuses_100 (lv_at hl 2 rfl) ?_
  refine lv_istore (lv' := [(10, .int 2147483647), (9, .int 2147483647), (8, .int 2147483647), (7, .int 2147483647), (6, .int 2), (5, .int 2147483647), (4, .int hd), (3, .int qtk), (2, .int qnw), (1, .int qpc), (0, .ref h)]) hx hb dL_refuses_102 hl (by decide) rfl (fun ls hl => ?_)
  refine lv_iload hx hb dL_refuses_104 (lv_at hl 4 rfl) ?_
  refine lv_if_ne (tgt := 113) hx hb dL_refuses_106 (by decide) (fun _ => ?_) (fun c => absurd c (by decide))
  refine lv_iload hx hb dL_refuses_113 (lv_at hl 4 rfl) ?_
  refine lv_iconst (v := 1) hx hb dL_refuses_115 (by decide) ?_
  refine lv_icmp_ne (tgt := 124) hx hb dL_refuses_116 (by decide) (fun _ => ?_) (fun c => absurd c (by decide))
  refine lv_iload hx hb dL_refuses_124 (lv_at hl 3 rfl) ?_
  refine lv_istore (lv' := [(11, .int 2147483647), (10, .int 2147483647), (9, .int 2147483647), (8, .int 2147483647), (7, .int 2147483647), (6, .int 2), (5, .int 2147483647), (4, .int hd), (3, .int qtk), (2, .int qnw), (1, .int qpc), (0, .ref h)]) hx hb dL_refuses_126 hl (by decide) rfl (fun ls hl => ?_)
  refine lv_iload hx hb dL_refuses_128 (lv_at hl 5 rfl) ?_
  refine lv_if_ne (tgt := 137) hx hb dL_refuses_130 (by decide) (fun _ => ?_) (fun c => absurd c (by decide))
  refine lv_iload hx hb dL_refuses_137 (lv_at hl 5 rfl) ?_
  refine lv_iconst (v := 1) hx hb dL_refuses_139 (by decide) ?_
  refine lv_icmp_ne (tgt := 149) hx hb dL_refuses_140 (by decide) (fun _ => ?_) (fun c => absurd c (by decide))
  refine lv_iload hx hb dL_refuses_149 (lv_at hl 4 rfl) ?_
  refine lv_istore (lv' := [(12, .int 2147483647), (11, .int 2147483647), (10, .int 2147483647), (9, .int 2147483647), (8, .int 2147483647), (7, .int 2147483647), (6, .int 2), (5, .int 2147483647), (4, .int hd), (3, .int qtk), (2, .int qnw), (1, .int qpc), (0, .ref h)]) hx hb dL_refuses_151 hl (by decide) rfl (fun ls hl => ?_)
  refine lv_aload_n hx hb dL_refuses_153 rfl (lv_at hl 12 rfl) ?_
  refine lv_iconst (v := 0) hx hb dL_refuses_154 (by decide) ?_
  refine lv_iload hx hb dL_refuses_155 (lv_at hl 6 rfl) ?_
  refine lv_iconst (v := 1) hx hb dL_refuses_157 (by decide) ?_
  refine lv_icmp_ne (tgt := 165) hx hb dL_refuses_158 (by decide) (fun _ => ?_) (fun c => absurd c (by decide))
  refine lv_iload hx hb dL_refuses_165 (lv_at hl 5 rfl) ?_
  refine lv_bipush (v := 6) hx hb dL_refuses_167 (by decide) ?_
  refine lv_iconst (v := 0) hx hb dL_refuses_169 (by decide) ?_
  refine lv_iconst (v := 0) hx hb dL_refuses_170 (by decide) ?_
  refine lk_callH (rest := []) (As := [.ref h, .int 0, .int 2147483647, .int 6, .int 0, .int 0]) hC (a_point_1 l hl0 dC dI cI cZ h a qph qgr qne qap qle qfu qpc qgd qri qnw qtk qsv qwa qgi qlo qtu n 2147483647 6 0 0 hpc hn (by rw [X0_point_T, if_neg (show ¬ (2147483647 : Int32) = 3 by decide), if_neg (show ¬ X0_requirePhase_T 2147483647 = 0 by decide +kernel)])) (vx_cwSW 6 hts gL_refuses_L_act rfl rfl rfl hd_L_act ⟨Nat.le_of_ble_eq_true rfl, Nat.le_of_ble_eq_true rfl⟩) hK hNs hZ hP hD hS hA rfl hl.1 (Nat.le_of_ble_eq_true rfl) dL_refuses_171 rfl ⟨Nat.le_of_ble_eq_true rfl, Nat.le_of_ble_eq_true rfl⟩ (fun w2 H locs hB hP hD hS => ?_)
  subst hB
  refine lv_ldc (v := (-70012)) hx hb hown (hts (.constant RL 65 (-70012)) (by decide +kernel)) dL_refuses_174 ?_
  refine lv_icmp_ne (tgt := 484) hx hb dL_refuses_176 (by decide) (fun c => absurd (by decide) c) (fun _ => ?_)
  refine lv_aload_n hx hb dL_refuses_179 rfl (lv_at hl 12 rfl) ?_
  refine lv_iconst (v := 0) hx hb dL_refuses_180 (by decide) ?_
  refine lv_iconst (v := 0) hx hb dL_refuses_181 (by decide) ?_
  refine lv_iload hx hb dL_refuses_182 (lv_at hl 6 rfl) ?_
  refine lv_if_ne (tgt := 191) hx hb dL_refuses_184 (by decide) (fun _ => ?_) (fun c => absurd c (by decide))
  refine lv_iload hx hb dL_refuses_191 (lv_at hl 6 rfl) ?_
  refine lv_iconst (v := 1) hx hb dL_refuses_193 (by decide) ?_
  refine lv_icmp_ne (tgt := 202) hx hb dL_refuses_194 (by decide) (fun _ => ?_) (fun c => absurd c (by decide))
  refine lv_iload hx hb dL_refuses_202 (lv_at hl 5 rfl) ?_
  refine lv_iconst (v := 0) hx hb dL_refuses_204 (by decide) ?_
  refine lv_iconst (v := 0) hx hb dL_refuses_205 (by decide) ?_
  refine lk_callH (rest := []) (As := [.ref h, .int 0, .int 0, .int 2147483647, .int 0, .int 0]) hC (a_point_1 l hl0 dC dI cI cZ h a qph qgr qne qap qle qfu qpc qgd qri qnw qtk qsv qwa qgi qlo qtu n 0 2147483647 0 0 hpc hn (by rw [X0_point_T, if_neg (show ¬ (0 : Int32) = 3 by decide), if_pos (show X0_requirePhase_T 0 = 0 by decide +kernel), if_neg (show ¬ X0_requireWithin_T 2147483647 6 32 = 0 by decide +kernel)])) (vx_cwSW 6 hts gL_refuses_L_act rfl rfl rfl hd_L_act ⟨Nat.le_of_ble_eq_true rfl, Nat.le_of_ble_eq_true rfl⟩) hK hNs hZ hP hD hS hA rfl hl.1 (Nat.le_of_ble_eq_true rfl) dL_refuses_206 rfl ⟨Nat.le_of_ble_eq_true rfl, Nat.le_of_ble_eq_true rfl⟩ (fun w2 H locs hB hP hD hS => ?_)
  subst hB
  refine lv_ldc (v := (-70012)) hx hb hown (hts (.constant RL 65 (-70012)) (by decide +kernel)) dL_refuses_209 ?_
  refine lv_icmp_ne (tgt := 484) hx hb dL_refuses_211 (by decide) (fun c => absurd (by decide) c) (fun _ => ?_)
  refine lv_aload_n hx hb dL_refuses_214 rfl (lv_at hl 12 rfl) ?_
  refine lv_iconst (v := 1) hx hb dL_refuses_215 (by decide) ?_
  refine lv_iload hx hb dL_refuses_216 (lv_at hl 3 rfl) ?_
  refine lv_iconst (v := 5) hx hb dL_refuses_218 (by decide) ?_
  refine lv_iconst (v := 0) hx hb dL_refuses_219 (by decide) ?_
  refine lv_iconst (v := 0) hx hb dL_refuses_220 (by decide) ?_
  refine lk_callH (rest := []) (As := [.ref h, .int 1, .int 2147483647, .int 5, .int 0, .int 0]) hC (a_fuse_1 l hl0 dC dI cI cZ h a qph qgr qne qap qle qfu qpc qgd qri qnw qtk qsv qwa qgi qlo qtu  2147483647 5 0 0  (by rw [X0_fuse_T, if_neg (show ¬ X0_requirePhase_T 2147483647 = 0 by decide +kernel)])) (vx_cwSW 6 hts gL_refuses_L_act rfl rfl rfl hd_L_act ⟨Nat.le_of_ble_eq_true rfl, Nat.le_of_ble_eq_true rfl⟩) hK hNs hZ hP hD hS hA rfl hl.1 (Nat.le_of_ble_eq_true rfl) dL_refuses_221 rfl ⟨Nat.le_of_ble_eq_true rfl, Nat.le_of_ble_eq_true rfl⟩ (fun w2 H locs hB hP hD hS => ?_)
  subst hB
  refine lv_ldc (v := (-70012)) hx hb hown (hts (.constant RL 65 (-70012)) (by decide +kernel)) dL_refuses_224 ?_
  refine lv_icmp_ne (tgt := 484) hx hb dL_refuses_226 (by decide) (fun c => absurd (by decide) c) (fun _ => ?_)
  refine lv_aload_n hx hb dL_refuses_229 rfl (lv_at hl 12 rfl) ?_
  refine lv_iconst (v := 1) hx hb dL_refuses_230 (by decide) ?_
  refine lv_iconst (v := 0) hx hb dL_refuses_231 (by decide) ?_
  refine lv_iload hx hb dL_refuses_232 (lv_at hl 2 rfl) ?_
  refine lv_iconst (v := 0) hx hb dL_refuses_234 (by decide) ?_
  refine lv_iconst (v := 0) hx hb dL_refuses_235 (by decide) ?_
  refine lk_callH (rest := []) (As := [.ref h, .int 1, .int 0, .int 2147483647, .int 0, .int 0]) hC (a_fuse_1 l hl0 dC dI cI cZ h a qph qgr qne qap qle qfu qpc qgd qri qnw qtk qsv qwa qgi qlo qtu  0 2147483647 0 0  (by rw [X0_fuse_T, if_pos (show X0_requirePhase_T 0 = 0 by decide +kernel), if_neg (show ¬ X0_requireWithin_T 2147483647 0 100 = 0 by decide +kernel)])) (vx_cwSW 6 hts gL_refuses_L_act rfl rfl rfl hd_L_act ⟨Nat.le_of_ble_eq_true rfl, Nat.le_of_ble_eq_true rfl⟩) hK hNs hZ hP hD hS hA rfl hl.1 (Nat.le_of_ble_eq_true rfl) dL_refuses_236 rfl ⟨Nat.le_of_ble_eq_true rfl, Nat.le_of_ble_eq_true rfl⟩ (fun w2 H locs hB hP hD hS => ?_)
  subst hB
  refine lv_ldc (v := (-70012)) hx hb hown (hts (.constant RL 65 (-70012)) (by decide +kernel)) dL_refuses_239 ?_
  refine lv_icmp_ne (tgt := 484) hx hb dL_refuses_241 (by decide) (fun c => absurd (by decide) c) (fun _ => ?_)
  refine lv_aload_n hx hb dL_refuses_244 rfl (lv_at hl 12 rfl) ?_
  refine lv_iconst (v := 2) hx hb dL_refuses_245 (by decide) ?_
  refine lv_iload hx hb dL_refuses_246 (lv_at hl 2 rfl) ?_
  refine lv_iconst (v := 0) hx hb dL_refuses_248 (by decide) ?_
  refine lv_iconst (v := 0) hx hb dL_refuses_249 (by decide) ?_
  refine lv_iconst (v := 0) hx hb dL_refuses_250 (by decide) ?_
  refine lk_callH (rest := []) (As := [.ref h, .int 2, .int 2147483647, .int 0, .int 0, .int 0]) hC (a_balance_1 l hl0 dC dI cI cZ h a qph qgr qne qap qle qfu qpc qgd qri qnw qtk qsv qwa qgi qlo qtu  2147483647 0 0 0  (by rw [X0_balance_T, if_neg (show ¬ X0_requireWithin_T 2147483647 0 100 = 0 by decide +kernel)])) (vx_cwSW 6 hts gL_refuses_L_act rfl rfl rfl hd_L_act ⟨Nat.le_of_ble_eq_true rfl, Nat.le_of_ble_eq_true rfl⟩) hK hNs hZ hP hD hS hA rfl hl.1 (Nat.le_of_ble_eq_true rfl) dL_refuses_251 rfl ⟨Nat.le_of_ble_eq_true rfl, Nat.le_of_ble_eq_true rfl⟩ (fun w2 H locs hB hP hD hS => ?_)
  subst hB
  refine lv_ldc (v := (-70012)) hx hb hown (hts (.constant RL 65 (-70012)) (by decide +kernel)) dL_refuses_254 ?_
  refine lv_icmp_ne (tgt := 484) hx hb dL_refuses_256 (by decide) (fun c => absurd (by decide) c) (fun _ => ?_)
  refine lv_aload_n hx hb dL_refuses_259 rfl (lv_at hl 12 rfl) ?_
  refine lv_iconst (v := 3) hx hb dL_refuses_260 (by decide) ?_
  refine lv_iload hx hb dL_refuses_261 (lv_at hl 6 rfl) ?_
  refine lv_iconst (v := 1) hx hb dL_refuses_263 (by decide) ?_
  refine lv_icmp_ne (tgt := 271) hx hb dL_refuses_264 (by decide) (fun _ => ?_) (fun c => absurd c (by decide))
  refine lv_iload hx hb dL_refuses_271 (lv_at hl 5 rfl) ?_
  refine lv_iconst (v := 0) hx hb dL_refuses_273 (by decide) ?_
  refine lv_iconst (v := 0) hx hb dL_refuses_274 (by decide) ?_
  refine lv_iconst (v := 0) hx hb dL_refuses_275 (by decide) ?_
  refine lk_callH (rest := []) (As := [.ref h, .int 3, .int 2147483647, .int 0, .int 0, .int 0]) hC (a_rule_1 l hl0 dC dI cI cZ h a qph qgr qne qap qle qfu qpc qgd qri qnw qtk qsv qwa qgi qlo qtu  2147483647 0 0 0  (by rw [X0_rule_T, if_neg (show ¬ X0_requireWithin_T 2147483647 0 1 = 0 by decide +kernel)])) (vx_cwSW 6 hts gL_refuses_L_act rfl rfl rfl hd_L_act ⟨Nat.le_of_ble_eq_true rfl, Nat.le_of_ble_eq_true rfl⟩) hK hNs hZ hP hD hS hA rfl hl.1 (Nat.le_of_ble_eq_true rfl) dL_refuses_276 rfl ⟨Nat.le_of_ble_eq_true rfl, Nat.le_of_ble_eq_true rfl⟩ (fun w2 H locs hB hP hD hS => ?_)
  subst hB
  refine lv_ldc (v := (-70012)) hx hb hown (hts (.constant RL 65 (-70012)) (by decide +kernel)) dL_refuses_279 ?_
  refine lv_icmp_ne (tgt := 484) hx hb dL_refuses_281 (by decide) (fun c => absurd (by decide) c) (fun _ => ?_)
  refine lv_aload_n hx hb dL_refuses_284 rfl (lv_at hl 12 rfl) ?_
  refine lv_iconst (v := 4) hx hb dL_refuses_285 (by decide) ?_
  refine lv_iload hx hb dL_refuses_286 (lv_at hl 4 rfl) ?_
  refine lv_iconst (v := 0) hx hb dL_refuses_288 (by decide) ?_
  refine lv_iconst (v := 0) hx hb dL_refuses_289 (by decide) ?_
  refine lv_iconst (v := 0) hx hb dL_refuses_290 (by decide) ?_
  refine lk_callH (rest := []) (As := [.ref h, .int 4, .int 2147483647, .int 0, .int 0, .int 0]) hC (a_plugIn_1 l hl0 dC dI cI cZ h a qph qgr qne qap qle qfu qpc qgd qri qnw qtk qsv qwa qgi qlo qtu n 2147483647 0 0 0 hpc hn (by rw [X0_plugIn_T, if_neg (rp_most hpc hn)])) (vx_cwSW 6 hts gL_refuses_L_act rfl rfl rfl hd_L_act ⟨Nat.le_of_ble_eq_true rfl, Nat.le_of_ble_eq_true rfl⟩) hK hNs hZ hP hD hS hA rfl hl.1 (Nat.le_of_ble_eq_true rfl) dL_refuses_291 rfl ⟨Nat.le_of_ble_eq_true rfl, Nat.le_of_ble_eq_true rfl⟩ (fun w2 H locs hB hP hD hS => ?_)
  subst hB
  refine lv_ldc (v := (-70011)) hx hb hown (hts (.constant RL 62 (-70011)) (by decide +kernel)) dL_refuses_294 ?_
  refine lv_icmp_ne (tgt := 484) hx hb dL_refuses_296 (by decide) (fun c => absurd (by decide) c) (fun _ => ?_)
  refine lv_aload_n hx hb dL_refuses_299 rfl (lv_at hl 12 rfl) ?_
  refine lv_iconst (v := 4) hx hb dL_refuses_300 (by decide) ?_
  refine lv_iconst (v := 0) hx hb dL_refuses_301 (by decide) ?_
  refine lv_iload hx hb dL_refuses_302 (lv_at hl 6 rfl) ?_
  refine lv_if_ne (tgt := 311) hx hb dL_refuses_304 (by decide) (fun _ => ?_) (fun c => absurd c (by decide))
  refine lv_iload hx hb dL_refuses_311 (lv_at hl 6 rfl) ?_
  refine lv_iconst (v := 1) hx hb dL_refuses_313 (by decide) ?_
  refine lv_icmp_ne (tgt := 323) hx hb dL_refuses_314 (by decide) (fun _ => ?_) (fun c => absurd c (by decide))
  refine lv_iload hx hb dL_refuses_323 (lv_at hl 5 rfl) ?_
  refine lv_iconst (v := 5) hx hb dL_refuses_325 (by decide) ?_
  refine lv_iconst (v := 5) hx hb dL_refuses_326 (by decide) ?_
  refine lk_callH (rest := []) (As := [.ref h, .int 4, .int 0, .int 2147483647, .int 5, .int 5]) hC (a_plugIn_2 l hl0 dC dI cI cZ h a qph qgr qne qap qle qfu qpc qgd qri qnw qtk qsv qwa qgi qlo qtu n 0 2147483647 5 5 hpc hn (by rw [X0_plugIn_T, if_pos (rp_zero hpc hn h1), if_neg (show ¬ X0_requireWithin_T 2147483647 1 5000 = 0 by decide +kernel)])) (vx_cwSW 6 hts gL_refuses_L_act rfl rfl rfl hd_L_act ⟨Nat.le_of_ble_eq_true rfl, Nat.le_of_ble_eq_true rfl⟩) hK hNs hZ hP hD hS hA rfl hl.1 (Nat.le_of_ble_eq_true rfl) dL_refuses_327 rfl ⟨Nat.le_of_ble_eq_true rfl, Nat.le_of_ble_eq_true rfl⟩ (fun w2 H locs hB hP hD hS => ?_)
  subst hB
  refine lv_ldc (v := (-70012)) hx hb hown (hts (.constant RL 65 (-70012)) (by decide +kernel)) dL_refuses_330 ?_
  refine lv_icmp_ne (tgt := 484) hx hb dL_refuses_332 (by decide) (fun c => absurd (by decide) c) (fun _ => ?_)
  refine lv_aload_n hx hb dL_refuses_335 rfl (lv_at hl 12 rfl) ?_
  refine lv_iconst (v := 4) hx hb dL_refuses_336 (by decide) ?_
  refine lv_iconst (v := 0) hx hb dL_refuses_337 (by decide) ?_
  refine lv_iconst (v := 5) hx hb dL_refuses_338 (by decide) ?_
  refine lv_iload hx hb dL_refuses_339 (lv_at hl 1 rfl) ?_
  refine lv_iconst (v := 5) hx hb dL_refuses_341 (by decide) ?_
  refine lk_callH (rest := []) (As := [.ref h, .int 4, .int 0, .int 5, .int 2147483647, .int 5]) hC (a_plugIn_2 l hl0 dC dI cI cZ h a qph qgr qne qap qle qfu qpc qgd qri qnw qtk qsv qwa qgi qlo qtu n 0 5 2147483647 5 hpc hn (by rw [X0_plugIn_T, if_pos (rp_zero hpc hn h1), if_pos (show X0_requireWithin_T 5 1 5000 = 0 by decide +kernel), if_neg (show ¬ X0_requireWithin_T 2147483647 1 32 = 0 by decide +kernel)])) (vx_cwSW 6 hts gL_refuses_L_act rfl rfl rfl hd_L_act ⟨Nat.le_of_ble_eq_true rfl, Nat.le_of_ble_eq_true rfl⟩) hK hNs hZ hP hD hS hA rfl hl.1 (Nat.le_of_ble_eq_true rfl) dL_refuses_342 rfl ⟨Nat.le_of_ble_eq_true rfl, Nat.le_of_ble_eq_true rfl⟩ (fun w2 H locs hB hP hD hS => ?_)
  subst hB
  refine lv_ldc (v := (-70012)) hx hb hown (hts (.constant RL 65 (-70012)) (by decide +kernel)) dL_refuses_345 ?_
  refine lv_icmp_ne (tgt := 484) hx hb dL_refuses_347 (by decide) (fun c => absurd (by decide) c) (fun _ => ?_)
  refine lv_aload_n hx hb dL_refuses_350 rfl (lv_at hl 12 rfl) ?_
  refine lv_iconst (v := 4) hx hb dL_refuses_351 (by decide) ?_
  refine lv_iconst (v := 0) hx hb dL_refuses_352 (by decide) ?_
  refine lv_iconst (v := 5) hx hb dL_refuses_353 (by decide) ?_
  refine lv_iconst (v := 5) hx hb dL_refuses_354 (by decide) ?_
  refine lv_iload hx hb dL_refuses_355 (lv_at hl 0 rfl) ?_
  refine lk_callH (rest := []) (As := [.ref h, .int 4, .int 0, .int 5, .int 5, .int 2147483647]) hC (a_plugIn_2 l hl0 dC dI cI cZ h a qph qgr qne qap qle qfu qpc qgd qri qnw qtk qsv qwa qgi qlo qtu n 0 5 5 2147483647 hpc hn (by rw [X0_plugIn_T, if_pos (rp_zero hpc hn h1), if_pos (show X0_requireWithin_T 5 1 5000 = 0 by decide +kernel), if_pos (show X0_requireWithin_T 5 1 32 = 0 by decide +kernel), if_neg (show ¬ X0_requireWithin_T 2147483647 1 500 = 0 by decide +kernel)])) (vx_cwSW 6 hts gL_refuses_L_act rfl rfl rfl hd_L_act ⟨Nat.le_of_ble_eq_true rfl, Nat.le_of_ble_eq_true rfl⟩) hK hNs hZ hP hD hS hA rfl hl.1 (Nat.le_of_ble_eq_true rfl) dL_refuses_357 rfl ⟨Nat.le_of_ble_eq_true rfl, Nat.le_of_ble_eq_true rfl⟩ (fun w2 H locs hB hP hD hS => ?_)
  subst hB
  refine lv_ldc (v := (-70012)) hx hb hown (hts (.constant RL 65 (-70012)) (by decide +kernel)) dL_refuses_360 ?_
  refine lv_icmp_ne (tgt := 484) hx hb dL_refuses_362 (by decide) (fun c => absurd (by decide) c) (fun _ => ?_)
  refine lv_aload_n hx hb dL_refuses_365 rfl (lv_at hl 12 rfl) ?_
  refine lv_iconst (v := 5) hx hb dL_refuses_366 (by decide) ?_
  refine lv_iload hx hb dL_refuses_367 (lv_at hl 4 rfl) ?_
  refine lv_iconst (v := 0) hx hb dL_refuses_369 (by decide) ?_
  refine lv_iconst (v := 0) hx hb dL_refuses_370 (by decide) ?_
  refine lv_iconst (v := 0) hx hb dL_refuses_371 (by decide) ?_
  refine lk_callH (rest := []) (As := [.ref h, .int 5, .int 2147483647, .int 0, .int 0, .int 0]) hC (a_takeOut_1 l hl0 dC dI cI cZ h a qph qgr qne qap qle qfu qpc qgd qri qnw qtk qsv qwa qgi qlo qtu n 2147483647 0 0 0 hpc hn (by rw [X0_takeOut_T, if_neg (rp_most hpc hn)])) (vx_cwSW 6 hts gL_refuses_L_act rfl rfl rfl hd_L_act ⟨Nat.le_of_ble_eq_true rfl, Nat.le_of_ble_eq_true rfl⟩) hK hNs hZ hP hD hS hA rfl hl.1 (Nat.le_of_ble_eq_true rfl) dL_refuses_372 rfl ⟨Nat.le_of_ble_eq_true rfl, Nat.le_of_ble_eq_true rfl⟩ (fun w2 H locs hB hP hD hS => ?_)
  subst hB
  refine lv_ldc (v := (-70011)) hx hb hown (hts (.constant RL 62 (-70011)) (by decide +kernel)) dL_refuses_375 ?_
  refine lv_icmp_ne (tgt := 484) hx hb dL_refuses_377 (by decide) (fun c => absurd (by decide) c) (fun _ => ?_)
  refine lv_aload_n hx hb dL_refuses_380 rfl (lv_at hl 12 rfl) ?_
  refine lv_bipush (v := 6) hx hb dL_refuses_381 (by decide) ?_
  refine lv_iload hx hb dL_refuses_383 (lv_at hl 4 rfl) ?_
  refine lv_iconst (v := 0) hx hb dL_refuses_385 (by decide) ?_
  refine lv_iconst (v := 0) hx hb dL_refuses_386 (by decide) ?_
  refine lv_iconst (v := 0) hx hb dL_refuses_387 (by decide) ?_
  refine lk_callH (rest := []) (As := [.ref h, .int 6, .int 2147483647, .int 0, .int 0, .int 0]) hC (a_appetite_1 l hl0 dC dI cI cZ h a qph qgr qne qap qle qfu qpc qgd qri qnw qtk qsv qwa qgi qlo qtu n 2147483647 0 0 0 hpc hn (by rw [X0_appetite_T, if_neg (rp_most hpc hn)])) (vx_cwSW 6 hts gL_refuses_L_act rfl rfl rfl hd_L_act ⟨Nat.le_of_ble_eq_true rfl, Nat.le_of_ble_eq_true rfl⟩) hK hNs hZ hP hD hS hA rfl hl.1 (Nat.le_of_ble_eq_true rfl) dL_refuses_388 rfl ⟨Nat.le_of_ble_eq_true rfl, Nat.le_of_ble_eq_true rfl⟩ (fun w2 H locs hB hP hD hS => ?_)
  subst hB
  refine lv_ldc (v := (-70011)) hx hb hown (hts (.constant RL 62 (-70011)) (by decide +kernel)) dL_refuses_391 ?_
  refine lv_icmp_ne (tgt := 484) hx hb dL_refuses_393 (by decide) (fun c => absurd (by decide) c) (fun _ => ?_)
  refine lv_aload_n hx hb dL_refuses_396 rfl (lv_at hl 12 rfl) ?_
  refine lv_bipush (v := 6) hx hb dL_refuses_397 (by decide) ?_
  refine lv_iconst (v := 0) hx hb dL_refuses_399 (by decide) ?_
  refine lv_iload hx hb dL_refuses_400 (lv_at hl 1 rfl) ?_
  refine lv_iconst (v := 0) hx hb dL_refuses_402 (by decide) ?_
  refine lv_iconst (v := 0) hx hb dL_refuses_403 (by decide) ?_
  refine lk_callH (rest := []) (As := [.ref h, .int 6, .int 0, .int 2147483647, .int 0, .int 0]) hC (a_appetite_2 l hl0 dC dI cI cZ h a qph qgr qne qap qle qfu qpc qgd qri qnw qtk qsv qwa qgi qlo qtu n 0 2147483647 0 0 hpc hn (by rw [X0_appetite_T, if_pos (rp_zero hpc hn h1), if_neg (show ¬ X0_requireWithin_T 2147483647 1 32 = 0 by decide +kernel)])) (vx_cwSW 6 hts gL_refuses_L_act rfl rfl rfl hd_L_act ⟨Nat.le_of_ble_eq_true rfl, Nat.le_of_ble_eq_true rfl⟩) hK hNs hZ hP hD hS hA rfl hl.1 (Nat.le_of_ble_eq_true rfl) dL_refuses_404 rfl ⟨Nat.le_of_ble_eq_true rfl, Nat.le_of_ble_eq_true rfl⟩ (fun w2 H locs hB hP hD hS => ?_)
  subst hB
  refine lv_ldc (v := (-70012)) hx hb hown (hts (.constant RL 65 (-70012)) (by decide +kernel)) dL_refuses_407 ?_
  refine lv_icmp_ne (tgt := 484) hx hb dL_refuses_409 (by decide) (fun c => absurd (by decide) c) (fun _ => ?_)
  refine lv_aload_n hx hb dL_refuses_412 rfl (lv_at hl 12 rfl) ?_
  refine lv_bipush (v := 7) hx hb dL_refuses_413 (by decide) ?_
  refine lv_iload hx hb dL_refuses_415 (lv_at hl 4 rfl) ?_
  refine lv_iconst (v := 0) hx hb dL_refuses_417 (by decide) ?_
  refine lv_iconst (v := 0) hx hb dL_refuses_418 (by decide) ?_
  refine lv_iconst (v := 0) hx hb dL_refuses_419 (by decide) ?_
  refine lk_callH (rest := []) (As := [.ref h, .int 7, .int 2147483647, .int 0, .int 0, .int 0]) hC (a_stay_1 l hl0 dC dI cI cZ h a qph qgr qne qap qle qfu qpc qgd qri qnw qtk qsv qwa qgi qlo qtu n 2147483647 0 0 0 hpc hn (by rw [X0_stay_T, if_neg (rp_most hpc hn)])) (vx_cwSW 6 hts gL_refuses_L_act rfl rfl rfl hd_L_act ⟨Nat.le_of_ble_eq_true rfl, Nat.le_of_ble_eq_true rfl⟩) hK hNs hZ hP hD hS hA rfl hl.1 (Nat.le_of_ble_eq_true rfl) dL_refuses_420 rfl ⟨Nat.le_of_ble_eq_true rfl, Nat.le_of_ble_eq_true rfl⟩ (fun w2 H locs hB hP hD hS => ?_)
  subst hB
  refine lv_ldc (v := (-70011)) hx hb hown (hts (.constant RL 62 (-70011)) (by decide +kernel)) dL_refuses_423 ?_
  refine lv_icmp_ne (tgt := 484) hx hb dL_refuses_425 (by decide) (fun c => absurd (by decide) c) (fun _ => ?_)
  refine lv_aload_n hx hb dL_refuses_428 rfl (lv_at hl 12 rfl) ?_
  refine lv_bipush (v := 7) hx hb dL_refuses_429 (by decide) ?_
  refine lv_iconst (v := 0) hx hb dL_refuses_431 (by decide) ?_
  refine lv_iload hx hb dL_refuses_432 (lv_at hl 0 rfl) ?_
  refine lv_iconst (v := 0) hx hb dL_refuses_434 (by decide) ?_
  refine lv_iconst (v := 0) hx hb dL_refuses_435 (by decide) ?_
  refine lk_callH (rest := []) (As := [.ref h, .int 7, .int 0, .int 2147483647, .int 0, .int 0]) hC (a_stay_2 l hl0 dC dI cI cZ h a qph qgr qne qap qle qfu qpc qgd qri qnw qtk qsv qwa qgi qlo qtu n 0 2147483647 0 0 hpc hn (by rw [X0_stay_T, if_pos (rp_zero hpc hn h1), if_neg (show ¬ X0_requireWithin_T 2147483647 1 500 = 0 by decide +kernel)])) (vx_cwSW 6 hts gL_refuses_L_act rfl rfl rfl hd_L_act ⟨Nat.le_of_ble_eq_true rfl, Nat.le_of_ble_eq_true rfl⟩) hK hNs hZ hP hD hS hA rfl hl.1 (Nat.le_of_ble_eq_true rfl) dL_refuses_436 rfl ⟨Nat.le_of_ble_eq_true rfl, Nat.le_of_ble_eq_true rfl⟩ (fun w2 H locs hB hP hD hS => ?_)
  subst hB
  refine lv_ldc (v := (-70012)) hx hb hown (hts (.constant RL 65 (-70012)) (by decide +kernel)) dL_refuses_439 ?_
  refine lv_icmp_ne (tgt := 484) hx hb dL_refuses_441 (by decide) (fun c => absurd (by decide) c) (fun _ => ?_)
  refine lv_aload_n hx hb dL_refuses_444 rfl (lv_at hl 12 rfl) ?_
  refine lv_bipush (v := 8) hx hb dL_refuses_445 (by decide) ?_
  refine lv_iload hx hb dL_refuses_447 (lv_at hl 6 rfl) ?_
  refine lv_if_ne (tgt := 456) hx hb dL_refuses_449 (by decide) (fun _ => ?_) (fun c => absurd c (by decide))
  refine lv_iload hx hb dL_refuses_456 (lv_at hl 6 rfl) ?_
  refine lv_iconst (v := 1) hx hb dL_refuses_458 (by decide) ?_
  refine lv_icmp_ne (tgt := 467) hx hb dL_refuses_459 (by decide) (fun _ => ?_) (fun c => absurd c (by decide))
  refine lv_iload hx hb dL_refuses_467 (lv_at hl 5 rfl) ?_
  refine lv_iconst (v := 0) hx hb dL_refuses_469 (by decide) ?_
  refine lv_iconst (v := 0) hx hb dL_refuses_470 (by decide) ?_
  refine lv_iconst (v := 0) hx hb dL_refuses_471 (by decide) ?_
  refine lk_callH (rest := []) (As := [.ref h, .int 8, .int 2147483647, .int 0, .int 0, .int 0]) hC (a_step_1 l hl0 dC dI cI cZ h a qph qgr qne qap qle qfu qpc qgd qri qnw qtk qsv qwa qgi qlo qtu n 2147483647 0 0 0 hpc hn (by rw [X0_step_T, if_neg (show ¬ X0_requireWithin_T 2147483647 1 50 = 0 by decide +kernel)])) (vx_cwSW 6 hts gL_refuses_L_act rfl rfl rfl hd_L_act ⟨Nat.le_of_ble_eq_true rfl, Nat.le_of_ble_eq_true rfl⟩) hK hNs hZ hP hD hS hA rfl hl.1 (Nat.le_of_ble_eq_true rfl) dL_refuses_472 rfl ⟨Nat.le_of_ble_eq_true rfl, Nat.le_of_ble_eq_true rfl⟩ (fun w2 H locs hB hP hD hS => ?_)
  subst hB
  refine lv_ldc (v := (-70012)) hx hb hown (hts (.constant RL 65 (-70012)) (by decide +kernel)) dL_refuses_475 ?_
  refine lv_icmp_ne (tgt := 484) hx hb dL_refuses_477 (by decide) (fun c => absurd (by decide) c) (fun _ => ?_)
  refine lv_iconst (v := 1) hx hb dL_refuses_480 (by decide) ?_
  refine lv_goto (tgt := 485) hx hb dL_refuses_481 (by decide) ?_
  refine lv_istore (lv' := [(13, .int 1), (12, .int 2147483647), (11, .int 2147483647), (10, .int 2147483647), (9, .int 2147483647), (8, .int 2147483647), (7, .int 2147483647), (6, .int 2), (5, .int 2147483647), (4, .int hd), (3, .int qtk), (2, .int qnw), (1, .int qpc), (0, .ref h)]) hx hb dL_refuses_485 hl (by decide) rfl (fun ls hl => ?_)
  refine lv_bipush (v := 9) hx hb dL_refuses_487 (by decide) ?_
  refine lv_istore (lv' := [(14, .int 9), (13, .int 1), (12, .int 2147483647), (11, .int 2147483647), (10, .int 2147483647), (9, .int 2147483647), (8, .int 2147483647), (7, .int 2147483647), (6, .int 2), (5, .int 2147483647), (4, .int hd), (3, .int qtk), (2, .int qnw), (1, .int qpc), (0, .ref h)]) hx hb dL_refuses_489 hl (by decide) rfl (fun ls hl => ?_)
  refine lv_iload hx hb dL_refuses_491 (lv_at hl 0 rfl) ?_
  refine lv_bipush (v := 14) hx hb dL_refuses_493 (by decide) ?_
  refine lv_icmp_ge (tgt := 532) hx hb dL_refuses_495 (by decide) (fun c => absurd c (by decide)) (fun _ => ?_)
  refine lv_iload hx hb dL_refuses_498 (lv_at hl 1 rfl) ?_
  refine lv_if_eq (tgt := 523) hx hb dL_refuses_500 (by decide) (fun c => absurd c (by decide)) (fun _ => ?_)
  refine lv_aload_n hx hb dL_refuses_503 rfl (lv_at hl 14 rfl) ?_
  refine lv_iload hx hb dL_refuses_504 (lv_at hl 0 rfl) ?_
  refine lv_iload hx hb dL_refuses_506 (lv_at hl 6 rfl) ?_
  refine lv_iconst (v := 0) hx hb dL_refuses_508 (by decide) ?_
  refine lv_iconst (v := 0) hx hb dL_refuses_509 (by decide) ?_
  refine lv_iconst (v := 0) hx hb dL_refuses_510 (by decide) ?_
  refine lk_callH (rest := []) (As := [.ref h, .int 9, .int 2147483647, .int 0, .int 0, .int 0]) hC (a_need_1 l hl0 dC dI cI cZ h a qph qgr qne qap qle qfu qpc qgd qri qnw qtk qsv qwa qgi qlo qtu n 2147483647 0 0 0 hpc hn (by rw [X0_need_T, if_neg (rp_most hpc hn)])) (vx_cwSW 6 hts gL_refuses_L_act rfl rfl rfl hd_L_act ⟨Nat.le_of_ble_eq_true rfl, Nat.le_of_ble_eq_true rfl⟩) hK hNs hZ hP hD hS hA rfl hl.1 (Nat.le_of_ble_eq_true rfl) dL_refuses_511 rfl ⟨Nat.le_of_ble_eq_true rfl, Nat.le_of_ble_eq_true rfl⟩ (fun w2 H locs hB hP hD hS => ?_)
  subst hB
  refine lv_ldc (v := (-70011)) hx hb hown (hts (.constant RL 62 (-70011)) (by decide +kernel)) dL_refuses_514 ?_
  refine lv_icmp_ne (tgt := 523) hx hb dL_refuses_516 (by decide) (fun c => absurd (by decide) c) (fun _ => ?_)
  refine lv_iconst (v := 1) hx hb dL_refuses_519 (by decide) ?_
  refine lv_goto (tgt := 524) hx hb dL_refuses_520 (by decide) ?_
  refine lv_istore (lv' := [(13, .int 1), (14, .int 9), (12, .int 2147483647), (11, .int 2147483647), (10, .int 2147483647), (9, .int 2147483647), (8, .int 2147483647), (7, .int 2147483647), (6, .int 2), (5, .int 2147483647), (4, .int hd), (3, .int qtk), (2, .int qnw), (1, .int qpc), (0, .ref h)]) hx hb dL_refuses_524 hl (by decide) rfl (fun ls hl => ?_)
  refine lv_iinc (v := 10) (lv' := [(14, .int 10), (13, .int 1), (12, .int 2147483647), (11, .int 2147483647), (10, .int 2147483647), (9, .int 2147483647), (8, .int 2147483647), (7, .int 2147483647), (6, .int 2), (5, .int 2147483647), (4, .int hd), (3, .int qtk), (2, .int qnw), (1, .int qpc), (0, .ref h)]) hx hb dL_refuses_526 hl (k := 1) rfl (by decide) (by decide) rfl (fun ls hl => ?_)
  refine lv_goto (tgt := 491) hx hb dL_refuses_529 (by decide) ?_
  refine lv_iload hx hb dL_refuses_491 (lv_at hl 0 rfl) ?_
  refine lv_bipush (v := 14) hx hb dL_refuses_493 (by decide) ?_
  refine lv_icmp_ge (tgt := 532) hx hb dL_refuses_495 (by decide) (fun c => absurd c (by decide)) (fun _ => ?_)
  refine lv_iload hx hb dL_refuses_498 (lv_at hl 1 rfl) ?_
  refine lv_if_eq (tgt := 523) hx hb dL_refuses_500 (by decide) (fun c => absurd c (by decide)) (fun _ => ?_)
  refine lv_aload_n hx hb dL_refuses_503 rfl (lv_at hl 14 rfl) ?_
  refine lv_iload hx hb dL_refuses_504 (lv_at hl 0 rfl) ?_
  refine lv_iload hx hb dL_refuses_506 (lv_at hl 6 rfl) ?_
  refine lv_iconst (v := 0) hx hb dL_refuses_508 (by decide) ?_
  refine lv_iconst (v := 0) hx hb dL_refuses_509 (by decide) ?_
  refine lv_iconst (v := 0) hx hb dL_refuses_510 (by decide) ?_
  refine lk_callH (rest := []) (As := [.ref h, .int 10, .int 2147483647, .int 0, .int 0, .int 0]) hC (a_left_1 l hl0 dC dI cI cZ h a qph qgr qne qap qle qfu qpc qgd qri qnw qtk qsv qwa qgi qlo qtu n 2147483647 0 0 0 hpc hn (by rw [X0_left_T, if_neg (rp_most hpc hn)])) (vx_cwSW 6 hts gL_refuses_L_act rfl rfl rfl hd_L_act ⟨Nat.le_of_ble_eq_true rfl, Nat.le_of_ble_eq_true rfl⟩) hK hNs hZ hP hD hS hA rfl hl.1 (Nat.le_of_ble_eq_true rfl) dL_refuses_511 rfl ⟨Nat.le_of_ble_eq_true rfl, Nat.le_of_ble_eq_true rfl⟩ (fun w2 H locs hB hP hD hS => ?_)
  subst hB
  refine lv_ldc (v := (-70011)) hx hb hown (hts (.constant RL 62 (-70011)) (by decide +kernel)) dL_refuses_514 ?_
  refine lv_icmp_ne (tgt := 523) hx hb dL_refuses_516 (by decide) (fun c => absurd (by decide) c) (fun _ => ?_)
  refine lv_iconst (v := 1) hx hb dL_refuses_519 (by decide) ?_
  refine lv_goto (tgt := 524) hx hb dL_refuses_520 (by decide) ?_
  refine lv_istore (lv' := [(13, .int 1), (14, .int 10), (12, .int 2147483647), (11, .int 2147483647), (10, .int 2147483647), (9, .int 2147483647), (8, .int 2147483647), (7, .int 2147483647), (6, .int 2), (5, .int 2147483647), (4, .int hd), (3, .int qtk), (2, .int qnw), (1, .int qpc), (0, .ref h)]) hx hb dL_refuses_524 hl (by decide) rfl (fun ls hl => ?_)
  refine lv_iinc (v := 11) (lv' := [(14, .int 11), (13, .int 1), (12, .int 2147483647), (11, .int 2147483647), (10, .int 2147483647), (9, .int 2147483647), (8, .int 2147483647), (7, .int 2147483647), (6, .int 2), (5, .int 2147483647), (4, .int hd), (3, .int qtk), (2, .int qnw), (1, .int qpc), (0, .ref h)]) hx hb dL_refuses_526 hl (k := 1) rfl (by decide) (by decide) rfl (fun ls hl => ?_)
  refine lv_goto (tgt := 491) hx hb dL_refuses_529 (by decide) ?_
  refine lv_iload hx hb dL_refuses_491 (lv_at hl 0 rfl) ?_
  refine lv_bipush (v := 14) hx hb dL_refuses_493 (by decide) ?_
  refine lv_icmp_ge (tgt := 532) hx hb dL_refuses_495 (by decide) (fun c => absurd c (by decide)) (fun _ => ?_)
  refine lv_iload hx hb dL_refuses_498 (lv_at hl 1 rfl) ?_
  refine lv_if_eq (tgt := 523) hx hb dL_refuses_500 (by decide) (fun c => absurd c (by decide)) (fun _ => ?_)
  refine lv_aload_n hx hb dL_refuses_503 rfl (lv_at hl 14 rfl) ?_
  refine lv_iload hx hb dL_refuses_504 (lv_at hl 0 rfl) ?_
  refine lv_iload hx hb dL_refuses_506 (lv_at hl 6 rfl) ?_
  refine lv_iconst (v := 0) hx hb dL_refuses_508 (by decide) ?_
  refine lv_iconst (v := 0) hx hb dL_refuses_509 (by decide) ?_
  refine lv_iconst (v := 0) hx hb dL_refuses_510 (by decide) ?_
  refine lk_callH (rest := []) (As := [.ref h, .int 11, .int 2147483647, .int 0, .int 0, .int 0]) hC (a_laxity_1 l hl0 dC dI cI cZ h a qph qgr qne qap qle qfu qpc qgd qri qnw qtk qsv qwa qgi qlo qtu n 2147483647 0 0 0 hpc hn (by rw [X0_laxity_T, if_neg (rp_most hpc hn)])) (vx_cwSW 6 hts gL_refuses_L_act rfl rfl rfl hd_L_act ⟨Nat.le_of_ble_eq_true rfl, Nat.le_of_ble_eq_true rfl⟩) hK hNs hZ hP hD hS hA rfl hl.1 (Nat.le_of_ble_eq_true rfl) dL_refuses_511 rfl ⟨Nat.le_of_ble_eq_true rfl, Nat.le_of_ble_eq_true rfl⟩ (fun w2 H locs hB hP hD hS => ?_)
  subst hB
  refine lv_ldc (v := (-70011)) hx hb hown (hts (.constant RL 62 (-70011)) (by decide +kernel)) dL_refuses_514 ?_
  refine lv_icmp_ne (tgt := 523) hx hb dL_refuses_516 (by decide) (fun c => absurd (by decide) c) (fun _ => ?_)
  refine lv_iconst (v := 1) hx hb dL_refuses_519 (by decide) ?_
  refine lv_goto (tgt := 524) hx hb dL_refuses_520 (by decide) ?_
  refine lv_istore (lv' := [(13, .int 1), (14, .int 11), (12, .int 2147483647), (11, .int 2147483647), (10, .int 2147483647), (9, .int 2147483647), (8, .int 2147483647), (7, .int 2147483647), (6, .int 2), (5, .int 2147483647), (4, .int hd), (3, .int qtk), (2, .int qnw), (1, .int qpc), (0, .ref h)]) hx hb dL_refuses_524 hl (by decide) rfl (fun ls hl => ?_)
  refine lv_iinc (v := 12) (lv' := [(14, .int 12), (13, .int 1), (12, .int 2147483647), (11, .int 2147483647), (10, .int 2147483647), (9, .int 2147483647), (8, .int 2147483647), (7, .int 2147483647), (6, .int 2), (5, .int 2147483647), (4, .int hd), (3, .int qtk), (2, .int qnw), (1, .int qpc), (0, .ref h)]) hx hb dL_refuses_526 hl (k := 1) rfl (by decide) (by decide) rfl (fun ls hl => ?_)
  refine lv_goto (tgt := 491) hx hb dL_refuses_529 (by decide) ?_
  refine lv_iload hx hb dL_refuses_491 (lv_at hl 0 rfl) ?_
  refine lv_bipush (v := 14) hx hb dL_refuses_493 (by decide) ?_
  refine lv_icmp_ge (tgt := 532) hx hb dL_refuses_495 (by decide) (fun c => absurd c (by decide)) (fun _ => ?_)
  refine lv_iload hx hb dL_refuses_498 (lv_at hl 1 rfl) ?_
  refine lv_if_eq (tgt := 523) hx hb dL_refuses_500 (by decide) (fun c => absurd c (by decide)) (fun _ => ?_)
  refine lv_aload_n hx hb dL_refuses_503 rfl (lv_at hl 14 rfl) ?_
  refine lv_iload hx hb dL_refuses_504 (lv_at hl 0 rfl) ?_
  refine lv_iload hx hb dL_refuses_506 (lv_at hl 6 rfl) ?_
  refine lv_iconst (v := 0) hx hb dL_refuses_508 (by decide) ?_
  refine lv_iconst (v := 0) hx hb dL_refuses_509 (by decide) ?_
  refine lv_iconst (v := 0) hx hb dL_refuses_510 (by decide) ?_
  refine lk_callH (rest := []) (As := [.ref h, .int 12, .int 2147483647, .int 0, .int 0, .int 0]) hC (a_reach_1 l hl0 dC dI cI cZ h a qph qgr qne qap qle qfu qpc qgd qri qnw qtk qsv qwa qgi qlo qtu n 2147483647 0 0 0 hpc hn (by rw [X0_reach_T, if_neg (rp_most hpc hn)])) (vx_cwSW 6 hts gL_refuses_L_act rfl rfl rfl hd_L_act ⟨Nat.le_of_ble_eq_true rfl, Nat.le_of_ble_eq_true rfl⟩) hK hNs hZ hP hD hS hA rfl hl.1 (Nat.le_of_ble_eq_true rfl) dL_refuses_511 rfl ⟨Nat.le_of_ble_eq_true rfl, Nat.le_of_ble_eq_true rfl⟩ (fun w2 H locs hB hP hD hS => ?_)
  subst hB
  refine lv_ldc (v := (-70011)) hx hb hown (hts (.constant RL 62 (-70011)) (by decide +kernel)) dL_refuses_514 ?_
  refine lv_icmp_ne (tgt := 523) hx hb dL_refuses_516 (by decide) (fun c => absurd (by decide) c) (fun _ => ?_)
  refine lv_iconst (v := 1) hx hb dL_refuses_519 (by decide) ?_
  refine lv_goto (tgt := 524) hx hb dL_refuses_520 (by decide) ?_
  refine lv_istore (lv' := [(13, .int 1), (14, .int 12), (12, .int 2147483647), (11, .int 2147483647), (10, .int 2147483647), (9, .int 2147483647), (8, .int 2147483647), (7, .int 2147483647), (6, .int 2), (5, .int 2147483647), (4, .int hd), (3, .int qtk), (2, .int qnw), (1, .int qpc), (0, .ref h)]) hx hb dL_refuses_524 hl (by decide) rfl (fun ls hl => ?_)
  refine lv_iinc (v := 13) (lv' := [(14, .int 13), (13, .int 1), (12, .int 2147483647), (11, .int 2147483647), (10, .int 2147483647), (9, .int 2147483647), (8, .int 2147483647), (7, .int 2147483647), (6, .int 2), (5, .int 2147483647), (4, .int hd), (3, .int qtk), (2, .int qnw), (1, .int qpc), (0, .ref h)]) hx hb dL_refuses_526 hl (k := 1) rfl (by decide) (by decide) rfl (fun ls hl => ?_)
  refine lv_goto (tgt := 491) hx hb dL_refuses_529 (by decide) ?_
  refine lv_iload hx hb dL_refuses_491 (lv_at hl 0 rfl) ?_
  refine lv_bipush (v := 14) hx hb dL_refuses_493 (by decide) ?_
  refine lv_icmp_ge (tgt := 532) hx hb dL_refuses_495 (by decide) (fun c => absurd c (by decide)) (fun _ => ?_)
  refine lv_iload hx hb dL_refuses_498 (lv_at hl 1 rfl) ?_
  refine lv_if_eq (tgt := 523) hx hb dL_refuses_500 (by decide) (fun c => absurd c (by decide)) (fun _ => ?_)
  refine lv_aload_n hx hb dL_refuses_503 rfl (lv_at hl 14 rfl) ?_
  refine lv_iload hx hb dL_refuses_504 (lv_at hl 0 rfl) ?_
  refine lv_iload hx hb dL_refuses_506 (lv_at hl 6 rfl) ?_
  refine lv_iconst (v := 0) hx hb dL_refuses_508 (by decide) ?_
  refine lv_iconst (v := 0) hx hb dL_refuses_509 (by decide) ?_
  refine lv_iconst (v := 0) hx hb dL_refuses_510 (by decide) ?_
  refine lk_callH (rest := []) (As := [.ref h, .int 13, .int 2147483647, .int 0, .int 0, .int 0]) hC (a_current_1 l hl0 dC dI cI cZ h a qph qgr qne qap qle qfu qpc qgd qri qnw qtk qsv qwa qgi qlo qtu n 2147483647 0 0 0 hpc hn (by rw [X0_current_T, if_neg (rp_most hpc hn)])) (vx_cwSW 6 hts gL_refuses_L_act rfl rfl rfl hd_L_act ⟨Nat.le_of_ble_eq_true rfl, Nat.le_of_ble_eq_true rfl⟩) hK hNs hZ hP hD hS hA rfl hl.1 (Nat.le_of_ble_eq_true rfl) dL_refuses_511 rfl ⟨Nat.le_of_ble_eq_true rfl, Nat.le_of_ble_eq_true rfl⟩ (fun w2 H locs hB hP hD hS => ?_)
  subst hB
  refine lv_ldc (v := (-70011)) hx hb hown (hts (.constant RL 62 (-70011)) (by decide +kernel)) dL_refuses_514 ?_
  refine lv_icmp_ne (tgt := 523) hx hb dL_refuses_516 (by decide) (fun c => absurd (by decide) c) (fun _ => ?_)
  refine lv_iconst (v := 1) hx hb dL_refuses_519 (by decide) ?_
  refine lv_goto (tgt := 524) hx hb dL_refuses_520 (by decide) ?_
  refine lv_istore (lv' := [(13, .int 1), (14, .int 13), (12, .int 2147483647), (11, .int 2147483647), (10, .int 2147483647), (9, .int 2147483647), (8, .int 2147483647), (7, .int 2147483647), (6, .int 2), (5, .int 2147483647), (4, .int hd), (3, .int qtk), (2, .int qnw), (1, .int qpc), (0, .ref h)]) hx hb dL_refuses_524 hl (by decide) rfl (fun ls hl => ?_)
  refine lv_iinc (v := 14) (lv' := [(14, .int 14), (13, .int 1), (12, .int 2147483647), (11, .int 2147483647), (10, .int 2147483647), (9, .int 2147483647), (8, .int 2147483647), (7, .int 2147483647), (6, .int 2), (5, .int 2147483647), (4, .int hd), (3, .int qtk), (2, .int qnw), (1, .int qpc), (0, .ref h)]) hx hb dL_refuses_526 hl (k := 1) rfl (by decide) (by decide) rfl (fun ls hl => ?_)
  refine lv_goto (tgt := 491) hx hb dL_refuses_529 (by decide) ?_
  refine lv_iload hx hb dL_refuses_491 (lv_at hl 0 rfl) ?_
  refine lv_bipush (v := 14) hx hb dL_refuses_493 (by decide) ?_
  refine lv_icmp_ge (tgt := 532) hx hb dL_refuses_495 (by decide) (fun _ => ?_) (fun c => absurd (by decide) c)
  refine lv_iload hx hb dL_refuses_532 (lv_at hl 1 rfl) ?_
  refine lv_if_eq (tgt := 569) hx hb dL_refuses_534 (by decide) (fun c => absurd c (by decide)) (fun _ => ?_)
  refine lv_aload_n hx hb dL_refuses_537 rfl (lv_at hl 14 rfl) ?_
  refine lv_bipush (v := 14) hx hb dL_refuses_538 (by decide) ?_
  refine lv_iload hx hb dL_refuses_540 (lv_at hl 5 rfl) ?_
  refine lv_iconst (v := 0) hx hb dL_refuses_542 (by decide) ?_
  refine lv_iconst (v := 0) hx hb dL_refuses_543 (by decide) ?_
  refine lv_iconst (v := 0) hx hb dL_refuses_544 (by decide) ?_
  refine lk_callH (rest := []) (As := [.ref h, .int 14, .int 2147483647, .int 0, .int 0, .int 0]) hC (a_load_1 l hl0 dC dI cI cZ h a qph qgr qne qap qle qfu qpc qgd qri qnw qtk qsv qwa qgi qlo qtu n 2147483647 0 0 0 hpc hn (by rw [X0_load_T, if_neg (show ¬ X0_requirePhase_T 2147483647 = 0 by decide +kernel)])) (vx_cwSW 6 hts gL_refuses_L_act rfl rfl rfl hd_L_act ⟨Nat.le_of_ble_eq_true rfl, Nat.le_of_ble_eq_true rfl⟩) hK hNs hZ hP hD hS hA rfl hl.1 (Nat.le_of_ble_eq_true rfl) dL_refuses_545 rfl ⟨Nat.le_of_ble_eq_true rfl, Nat.le_of_ble_eq_true rfl⟩ (fun w2 H locs hB hP hD hS => ?_)
  subst hB
  refine lv_ldc (v := (-70012)) hx hb hown (hts (.constant RL 65 (-70012)) (by decide +kernel)) dL_refuses_548 ?_
  refine lv_icmp_ne (tgt := 569) hx hb dL_refuses_550 (by decide) (fun c => absurd (by decide) c) (fun _ => ?_)
  refine lv_aload_n hx hb dL_refuses_553 rfl (lv_at hl 14 rfl) ?_
  refine lv_bipush (v := 15) hx hb dL_refuses_554 (by decide) ?_
  refine lv_iload hx hb dL_refuses_556 (lv_at hl 5 rfl) ?_
  refine lv_iconst (v := 0) hx hb dL_refuses_558 (by decide) ?_
  refine lv_iconst (v := 0) hx hb dL_refuses_559 (by decide) ?_
  refine lv_iconst (v := 0) hx hb dL_refuses_560 (by decide) ?_
  refine lk_callH (rest := []) (As := [.ref h, .int 15, .int 2147483647, .int 0, .int 0, .int 0]) hC (a_fairLevel_1 l hl0 dC dI cI cZ h a qph qgr qne qap qle qfu qpc qgd qri qnw qtk qsv qwa qgi qlo qtu n 2147483647 0 0 0 hpc hn (by rw [X0_fairLevel_T, if_neg (show ¬ X0_requirePhase_T 2147483647 = 0 by decide +kernel)])) (vx_cwSW 6 hts gL_refuses_L_act rfl rfl rfl hd_L_act ⟨Nat.le_of_ble_eq_true rfl, Nat.le_of_ble_eq_true rfl⟩) hK hNs hZ hP hD hS hA rfl hl.1 (Nat.le_of_ble_eq_true rfl) dL_refuses_561 rfl ⟨Nat.le_of_ble_eq_true rfl, Nat.le_of_ble_eq_true rfl⟩ (fun w2 H locs hB hP hD hS => ?_)
  subst hB
  refine lv_ldc (v := (-70012)) hx hb hown (hts (.constant RL 65 (-70012)) (by decide +kernel)) dL_refuses_564 ?_
  refine lv_icmp_eq (tgt := 571) hx hb dL_refuses_566 (by decide) (fun _ => ?_) (fun c => absurd (by decide) c)
  refine lv_iinc (v := 3) (lv' := [(6, .int 3), (14, .int 14), (13, .int 1), (12, .int 2147483647), (11, .int 2147483647), (10, .int 2147483647), (9, .int 2147483647), (8, .int 2147483647), (7, .int 2147483647), (5, .int 2147483647), (4, .int hd), (3, .int qtk), (2, .int qnw), (1, .int qpc), (0, .ref h)]) hx hb dL_refuses_571 hl (k := 8) rfl (by decide) (by decide) rfl (fun ls hl => ?_)
  refine lv_goto (tgt := 28) hx hb dL_refuses_574 (by decide) ?_
  exact hnext H locs ls hP hD hS (lv_sub hl [0, 9, 10, 11, 12, 13, 14] rfl)
set_option maxHeartbeats 4000000 in
set_option maxRecDepth 100000 in
theorem rf_it3 {p : Program} {l : Launch} {e : Env} {s : State} {m : MethodId} {args : Array Value} {below : List Frame} {meth : Method} {c : Code} {A : Nat → Prop} {Q : State → Prop} {dC : Nat → ClassId} {dI : Nat → Nat → Nat} {cI cZ : ClassId} {h : Nat} {a : Nat → Nat} {qph : AR} {qgr : AR} {qne : AR} {qap : AR} {qle : AR} {qfu : AR} {qpc : Int32} {qgd : Int32} {qri : Int32} {qnw : Int32} {qtk : Int32} {qsv : Int32} {qwa : AR} {qgi : AR} {qlo : AR} {qtu : AR} {n : Nat} {hd : Int32} (hC : CallFix p m c cL_refuses 15 s args wsL_refuses RL) (hl0 : l.stackTraces = false) (hK : va_K (dC, dI) vwCl (kT cI cZ) s) (hNs : kN s) (hZ : kZ A s s.heap) (hA : ∀ q, s.heap.size ≤ q → A q) (hpc : qpc = nI n) (hn : n ≤ 8) (h1 : 1 ≤ n) (hnext : ∀ (H : Heap) (locs : List Loc) (ls : Array Slot), va_P (dC, dI) vwCl (xW cI cZ h a qph qgr qne qap qle qfu qpc qgd qri qnw qtk qsv qwa qgi qlo qtu) H → va_D A (xW cI cZ h a qph qgr qne qap qle qfu qpc qgd qri qnw qtk qsv qwa qgi qlo qtu) → va_S A s.heap H locs → lv_has ls 15 [(6, .int 4), (5, .int 2147483647), (4, .int hd), (3, .int qtk), (2, .int qnw), (1, .int qpc), (0, .ref h)] → W p l e rmL_refuses s m args below meth c H locs 92 552 Q (F0 m 28 ls [])) : ∀ (H : Heap) (locs : List Loc) (ls : Array Slot), va_P (dC, dI) vwCl (xW cI cZ h a qph qgr qne qap qle qfu qpc qgd qri qnw qtk qsv qwa qgi qlo qtu) H → va_D A (xW cI cZ h a qph qgr qne qap qle qfu qpc qgd qri qnw qtk qsv qwa qgi qlo qtu) → va_S A s.heap H locs → lv_has ls 15 [(6, .int 3), (5, .int 2147483647), (4, .int hd), (3, .int qtk), (2, .int qnw), (1, .int qpc), (0, .ref h)] → W p l e rmL_refuses s m args below meth c H locs 69 414 Q (F0 m 28 ls []) := by
  obtain ⟨hx, hb, hml, hown, hts⟩ := id hC
  intro H locs ls hP hD hS hl
  refine lv_iload hx hb dL_refuses_28 (lv_at hl 0 rfl) ?_
  refine lv_iconst (v := 4) hx hb dL_refuses_30 (by decide) ?_
  refine lv_icmp_ge (tgt := 577) hx hb dL_refuses_31 (by decide) (fun c => absurd c (by decide)) (fun _ => ?_)
  refine lv_iload hx hb dL_refuses_34 (lv_at hl 0 rfl) ?_
  refine lv_if_ne (tgt := 43) hx hb dL_refuses_36 (by decide) (fun _ => ?_) (fun c => absurd c (by decide))
  refine lv_iload hx hb dL_refuses_43 (lv_at hl 0 rfl) ?_
  refine lv_iconst (v := 2) hx hb dL_refuses_45 (by decide) ?_
  refine lv_icmp_ne (tgt := 54) hx hb dL_refuses_46 (by decide) (fun _ => ?_) (fun c => absurd c (by decide))
  refine lv_iload hx hb dL_refuses_54 (lv_at hl 1 rfl) ?_
  refine lv_ineg hx hb dL_refuses_56 ?_
  refine lv_iconst (v := 1) hx hb dL_refuses_57 (by decide) ?_
  refine lv_isub hx hb dL_refuses_58 ?_
  rw [show ((-2147483647) - 1 : Int32) = (-2147483648) from by decide +kernel]
  refine lv_istore (lv' := [(7, .int (-2147483648)), (6, .int 3), (5, .int 2147483647), (4, .int hd), (3, .int qtk), (2, .int qnw), (1, .int qpc), (0, .ref h)]) hx hb dL_refuses_59 hl (by decide) rfl (fun ls hl => ?_)
  refine lv_iload hx hb dL_refuses_61 (lv_at hl 1 rfl) ?_
  refine lv_iconst (v := 1) hx hb dL_refuses_63 (by decide) ?_
  refine lv_icmp_ne (tgt := 71) hx hb dL_refuses_64 (by decide) (fun _ => ?_) (fun c => absurd c (by decide))
  refine lv_iload hx hb dL_refuses_71 (lv_at hl 0 rfl) ?_
  refine lv_istore (lv' := [(8, .int (-2147483648)), (7, .int (-2147483648)), (6, .int 3), (5, .int 2147483647), (4, .int hd), (3, .int qtk), (2, .int qnw), (1, .int qpc), (0, .ref h)]) hx hb dL_refuses_73 hl (by decide) rfl (fun ls hl => ?_)
  refine lv_iload hx hb dL_refuses_75 (lv_at hl 2 rfl) ?_
  refine lv_iconst (v := 1) hx hb dL_refuses_77 (by decide) ?_
  refine lv_icmp_ne (tgt := 85) hx hb dL_refuses_78 (by decide) (fun _ => ?_) (fun c => absurd c (by decide))
  refine lv_iload hx hb dL_refuses_85 (lv_at hl 1 rfl) ?_
  refine lv_istore (lv' := [(9, .int (-2147483648)), (8, .int (-2147483648)), (7, .int (-2147483648)), (6, .int 3), (5, .int 2147483647), (4, .int hd), (3, .int qtk), (2, .int qnw), (1, .int qpc), (0, .ref h)]) hx hb dL_refuses_87 hl (by decide) rfl (fun ls hl => ?_)
  refine lv_iload hx hb dL_refuses_89 (lv_at hl 3 rfl) ?_
  refine lv_iconst (v := 1) hx hb dL_refuses_91 (by decide) ?_
  refine lv_icmp_ne (tgt := 100) hx hb dL_refuses_92 (by decide) (fun _ => ?_) (fun c => absurd c (by decide))
  refine lv_iload hx hb dL_refuses_100 (lv_at hl 2 rfl) ?_
  refine lv_istore (lv' := [(10, .int (-2147483648)), (9, .int (-2147483648)), (8, .int (-2147483648)), (7, .int (-2147483648)), (6, .int 3), (5, .int 2147483647), (4, .int hd), (3, .int qtk), (2, .int qnw), (1, .int qpc), (0, .ref h)]) hx hb dL_refuses_102 hl (by decide) rfl (fun ls hl => ?_)
  refine lv_iload hx hb dL_refuses_104 (lv_at hl 4 rfl) ?_
  refine lv_if_ne (tgt := 113) hx hb dL_refuses_106 (by decide) (fun _ => ?_) (fun c => absurd c (by decide))
  refine lv_iload hx hb dL_refuses_113 (lv_at hl 4 rfl) ?_
  refine lv_iconst (v := 1) hx hb dL_refuses_115 (by decide) ?_
  refine lv_icmp_ne (tgt := 124) hx hb dL_refuses_116 (by decide) (fun _ => ?_) (fun c => absurd c (by decide))
  refine lv_iload hx hb dL_refuses_124 (lv_at hl 3 rfl) ?_
  refine lv_istore (lv' := [(11, .int (-2147483648)), (10, .int (-2147483648)), (9, .int (-2147483648)), (8, .int (-2147483648)), (7, .int (-2147483648)), (6, .int 3), (5, .int 2147483647), (4, .int hd), (3, .int qtk), (2, .int qnw), (1, .int qpc), (0, .ref h)]) hx hb dL_refuses_126 hl (by decide) rfl (fun ls hl => ?_)
  refine lv_iload hx hb dL_refuses_128 (lv_at hl 5 rfl) ?_
  refine lv_if_ne (tgt := 137) hx hb dL_refuses_130 (by decide) (fun _ => ?_) (fun c => absurd c (by decide))
  refine lv_iload hx hb dL_refuses_137 (lv_at hl 5 rfl) ?_
  refine lv_iconst (v := 1) hx hb dL_refuses_139 (by decide) ?_
  refine lv_icmp_ne (tgt := 149) hx hb dL_refuses_140 (by decide) (fun _ => ?_) (fun c => absurd c (by decide))
  refine lv_iload hx hb dL_refuses_149 (lv_at hl 4 rfl) ?_
  refine lv_istore (lv' := [(12, .int (-2147483648)), (11, .int (-2147483648)), (10, .int (-2147483648)), (9, .int (-2147483648)), (8, .int (-2147483648)), (7, .int (-2147483648)), (6, .int 3), (5, .int 2147483647), (4, .int hd), (3, .int qtk), (2, .int qnw), (1, .int qpc), (0, .ref h)]) hx hb dL_refuses_151 hl (by decide) rfl (fun ls hl => ?_)
  refine lv_aload_n hx hb dL_refuses_153 rfl (lv_at hl 12 rfl) ?_
  refine lv_iconst (v := 0) hx hb dL_refuses_154 (by decide) ?_
  refine lv_iload hx hb dL_refuses_155 (lv_at hl 6 rfl) ?_
  refine lv_iconst (v := 1) hx hb dL_refuses_157 (by decide) ?_
  refine lv_icmp_ne (tgt := 165) hx hb dL_refuses_158 (by decide) (fun _ => ?_) (fun c => absurd c (by decide))
  refine lv_iload hx hb dL_refuses_165 (lv_at hl 5 rfl) ?_
  refine lv_bipush (v := 6) hx hb dL_refuses_167 (by decide) ?_
  refine lv_iconst (v := 0) hx hb dL_refuses_169 (by decide) ?_
  refine lv_iconst (v := 0) hx hb dL_refuses_170 (by decide) ?_
  refine lk_callH (rest := []) (As := [.ref h, .int 0, .int (-2147483648), .int 6, .int 0, .int 0]) hC (a_point_1 l hl0 dC dI cI cZ h a qph qgr qne qap qle qfu qpc qgd qri qnw qtk qsv qwa qgi qlo qtu n (-2147483648) 6 0 0 hpc hn (by rw [X0_point_T, if_neg (show ¬ ((-2147483648) : Int32) = 3 by decide), if_neg (show ¬ X0_requirePhase_T (-2147483648) = 0 by decide +kernel)])) (vx_cwSW 6 hts gL_refuses_L_act rfl rfl rfl hd_L_act ⟨Nat.le_of_ble_eq_true rfl, Nat.le_of_ble_eq_true rfl⟩) hK hNs hZ hP hD hS hA rfl hl.1 (Nat.le_of_ble_eq_true rfl) dL_refuses_171 rfl ⟨Nat.le_of_ble_eq_true rfl, Nat.le_of_ble_eq_true rfl⟩ (fun w2 H locs hB hP hD hS => ?_)
  subst hB
  refine lv_ldc (v := (-70012)) hx hb hown (hts (.constant RL 65 (-70012)) (by decide +kernel)) dL_refuses_174 ?_
  refine lv_icmp_ne (tgt := 484) hx hb dL_refuses_176 (by decide) (fun c => absurd (by decide) c) (fun _ => ?_)
  refine lv_aload_n hx hb dL_refuses_179 rfl (lv_at hl 12 rfl) ?_
  refine lv_iconst (v := 0) hx hb dL_refuses_180 (by decide) ?_
  refine lv_iconst (v := 0) hx hb dL_refuses_181 (by decide) ?_
  refine lv_iload hx hb dL_refuses_182 (lv_at hl 6 rfl) ?_
  refine lv_if_ne (tgt := 191) hx hb dL_refuses_184 (by decide) (fun _ => ?_) (fun c => absurd c (by decide))
  refine lv_iload hx hb dL_refuses_191 (lv_at hl 6 rfl) ?_
  refine lv_iconst (v := 1) hx hb dL_refuses_193 (by decide) ?_
  refine lv_icmp_ne (tgt := 202) hx hb dL_refuses_194 (by decide) (fun _ => ?_) (fun c => absurd c (by decide))
  refine lv_iload hx hb dL_refuses_202 (lv_at hl 5 rfl) ?_
  refine lv_iconst (v := 0) hx hb dL_refuses_204 (by decide) ?_
  refine lv_iconst (v := 0) hx hb dL_refuses_205 (by decide) ?_
  refine lk_callH (rest := []) (As := [.ref h, .int 0, .int 0, .int (-2147483648), .int 0, .int 0]) hC (a_point_1 l hl0 dC dI cI cZ h a qph qgr qne qap qle qfu qpc qgd qri qnw qtk qsv qwa qgi qlo qtu n 0 (-2147483648) 0 0 hpc hn (by rw [X0_point_T, if_neg (show ¬ (0 : Int32) = 3 by decide), if_pos (show X0_requirePhase_T 0 = 0 by decide +kernel), if_neg (show ¬ X0_requireWithin_T (-2147483648) 6 32 = 0 by decide +kernel)])) (vx_cwSW 6 hts gL_refuses_L_act rfl rfl rfl hd_L_act ⟨Nat.le_of_ble_eq_true rfl, Nat.le_of_ble_eq_true rfl⟩) hK hNs hZ hP hD hS hA rfl hl.1 (Nat.le_of_ble_eq_true rfl) dL_refuses_206 rfl ⟨Nat.le_of_ble_eq_true rfl, Nat.le_of_ble_eq_true rfl⟩ (fun w2 H locs hB hP hD hS => ?_)
  subst hB
  refine lv_ldc (v := (-70012)) hx hb hown (hts (.constant RL 65 (-70012)) (by decide +kernel)) dL_refuses_209 ?_
  refine lv_icmp_ne (tgt := 484) hx hb dL_refuses_211 (by decide) (fun c => absurd (by decide) c) (fun _ => ?_)
  refine lv_aload_n hx hb dL_refuses_214 rfl (lv_at hl 12 rfl) ?_
  refine lv_iconst (v := 1) hx hb dL_refuses_215 (by decide) ?_
  refine lv_iload hx hb dL_refuses_216 (lv_at hl 3 rfl) ?_
  refine lv_iconst (v := 5) hx hb dL_refuses_218 (by decide) ?_
  refine lv_iconst (v := 0) hx hb dL_refuses_219 (by decide) ?_
  refine lv_iconst (v := 0) hx hb dL_refuses_220 (by decide) ?_
  refine lk_callH (rest := []) (As := [.ref h, .int 1, .int (-2147483648), .int 5, .int 0, .int 0]) hC (a_fuse_1 l hl0 dC dI cI cZ h a qph qgr qne qap qle qfu qpc qgd qri qnw qtk qsv qwa qgi qlo qtu  (-2147483648) 5 0 0  (by rw [X0_fuse_T, if_neg (show ¬ X0_requirePhase_T (-2147483648) = 0 by decide +kernel)])) (vx_cwSW 6 hts gL_refuses_L_act rfl rfl rfl hd_L_act ⟨Nat.le_of_ble_eq_true rfl, Nat.le_of_ble_eq_true rfl⟩) hK hNs hZ hP hD hS hA rfl hl.1 (Nat.le_of_ble_eq_true rfl) dL_refuses_221 rfl ⟨Nat.le_of_ble_eq_true rfl, Nat.le_of_ble_eq_true rfl⟩ (fun w2 H locs hB hP hD hS => ?_)
  subst hB
  refine lv_ldc (v := (-70012)) hx hb hown (hts (.constant RL 65 (-70012)) (by decide +kernel)) dL_refuses_224 ?_
  refine lv_icmp_ne (tgt := 484) hx hb dL_refuses_226 (by decide) (fun c => absurd (by decide) c) (fun _ => ?_)
  refine lv_aload_n hx hb dL_refuses_229 rfl (lv_at hl 12 rfl) ?_
  refine lv_iconst (v := 1) hx hb dL_refuses_230 (by decide) ?_
  refine lv_iconst (v := 0) hx hb dL_refuses_231 (by decide) ?_
  refine lv_iload hx hb dL_refuses_232 (lv_at hl 2 rfl) ?_
  refine lv_iconst (v := 0) hx hb dL_refuses_234 (by decide) ?_
  refine lv_iconst (v := 0) hx hb dL_refuses_235 (by decide) ?_
  refine lk_callH (rest := []) (As := [.ref h, .int 1, .int 0, .int (-2147483648), .int 0, .int 0]) hC (a_fuse_1 l hl0 dC dI cI cZ h a qph qgr qne qap qle qfu qpc qgd qri qnw qtk qsv qwa qgi qlo qtu  0 (-2147483648) 0 0  (by rw [X0_fuse_T, if_pos (show X0_requirePhase_T 0 = 0 by decide +kernel), if_neg (show ¬ X0_requireWithin_T (-2147483648) 0 100 = 0 by decide +kernel)])) (vx_cwSW 6 hts gL_refuses_L_act rfl rfl rfl hd_L_act ⟨Nat.le_of_ble_eq_true rfl, Nat.le_of_ble_eq_true rfl⟩) hK hNs hZ hP hD hS hA rfl hl.1 (Nat.le_of_ble_eq_true rfl) dL_refuses_236 rfl ⟨Nat.le_of_ble_eq_true rfl, Nat.le_of_ble_eq_true rfl⟩ (fun w2 H locs hB hP hD hS => ?_)
  subst hB
  refine lv_ldc (v := (-70012)) hx hb hown (hts (.constant RL 65 (-70012)) (by decide +kernel)) dL_refuses_239 ?_
  refine lv_icmp_ne (tgt := 484) hx hb dL_refuses_241 (by decide) (fun c => absurd (by decide) c) (fun _ => ?_)
  refine lv_aload_n hx hb dL_refuses_244 rfl (lv_at hl 12 rfl) ?_
  refine lv_iconst (v := 2) hx hb dL_refuses_245 (by decide) ?_
  refine lv_iload hx hb dL_refuses_246 (lv_at hl 2 rfl) ?_
  refine lv_iconst (v := 0) hx hb dL_refuses_248 (by decide) ?_
  refine lv_iconst (v := 0) hx hb dL_refuses_249 (by decide) ?_
  refine lv_iconst (v := 0) hx hb dL_refuses_250 (by decide) ?_
  refine lk_callH (rest := []) (As := [.ref h, .int 2, .int (-2147483648), .int 0, .int 0, .int 0]) hC (a_balance_1 l hl0 dC dI cI cZ h a qph qgr qne qap qle qfu qpc qgd qri qnw qtk qsv qwa qgi qlo qtu  (-2147483648) 0 0 0  (by rw [X0_balance_T, if_neg (show ¬ X0_requireWithin_T (-2147483648) 0 100 = 0 by decide +kernel)])) (vx_cwSW 6 hts gL_refuses_L_act rfl rfl rfl hd_L_act ⟨Nat.le_of_ble_eq_true rfl, Nat.le_of_ble_eq_true rfl⟩) hK hNs hZ hP hD hS hA rfl hl.1 (Nat.le_of_ble_eq_true rfl) dL_refuses_251 rfl ⟨Nat.le_of_ble_eq_true rfl, Nat.le_of_ble_eq_true rfl⟩ (fun w2 H locs hB hP hD hS => ?_)
  subst hB
  refine lv_ldc (v := (-70012)) hx hb hown (hts (.constant RL 65 (-70012)) (by decide +kernel)) dL_refuses_254 ?_
  refine lv_icmp_ne (tgt := 484) hx hb dL_refuses_256 (by decide) (fun c => absurd (by decide) c) (fun _ => ?_)
  refine lv_aload_n hx hb dL_refuses_259 rfl (lv_at hl 12 rfl) ?_
  refine lv_iconst (v := 3) hx hb dL_refuses_260 (by decide) ?_
  refine lv_iload hx hb dL_refuses_261 (lv_at hl 6 rfl) ?_
  refine lv_iconst (v := 1) hx hb dL_refuses_263 (by decide) ?_
  refine lv_icmp_ne (tgt := 271) hx hb dL_refuses_264 (by decide) (fun _ => ?_) (fun c => absurd c (by decide))
  refine lv_iload hx hb dL_refuses_271 (lv_at hl 5 rfl) ?_
  refine lv_iconst (v := 0) hx hb dL_refuses_273 (by decide) ?_
  refine lv_iconst (v := 0) hx hb dL_refuses_274 (by decide) ?_
  refine lv_iconst (v := 0) hx hb dL_refuses_275 (by decide) ?_
  refine lk_callH (rest := []) (As := [.ref h, .int 3, .int (-2147483648), .int 0, .int 0, .int 0]) hC (a_rule_1 l hl0 dC dI cI cZ h a qph qgr qne qap qle qfu qpc qgd qri qnw qtk qsv qwa qgi qlo qtu  (-2147483648) 0 0 0  (by rw [X0_rule_T, if_neg (show ¬ X0_requireWithin_T (-2147483648) 0 1 = 0 by decide +kernel)])) (vx_cwSW 6 hts gL_refuses_L_act rfl rfl rfl hd_L_act ⟨Nat.le_of_ble_eq_true rfl, Nat.le_of_ble_eq_true rfl⟩) hK hNs hZ hP hD hS hA rfl hl.1 (Nat.le_of_ble_eq_true rfl) dL_refuses_276 rfl ⟨Nat.le_of_ble_eq_true rfl, Nat.le_of_ble_eq_true rfl⟩ (fun w2 H locs hB hP hD hS => ?_)
  subst hB
  refine lv_ldc (v := (-70012)) hx hb hown (hts (.constant RL 65 (-70012)) (by decide +kernel)) dL_refuses_279 ?_
  refine lv_icmp_ne (tgt := 484) hx hb dL_refuses_281 (by decide) (fun c => absurd (by decide) c) (fun _ => ?_)
  refine lv_aload_n hx hb dL_refuses_284 rfl (lv_at hl 12 rfl) ?_
  refine lv_iconst (v := 4) hx hb dL_refuses_285 (by decide) ?_
  refine lv_iload hx hb dL_refuses_286 (lv_at hl 4 rfl) ?_
  refine lv_iconst (v := 0) hx hb dL_refuses_288 (by decide) ?_
  refine lv_iconst (v := 0) hx hb dL_refuses_289 (by decide) ?_
  refine lv_iconst (v := 0) hx hb dL_refuses_290 (by decide) ?_
  refine lk_callH (rest := []) (As := [.ref h, .int 4, .int (-2147483648), .int 0, .int 0, .int 0]) hC (a_plugIn_1 l hl0 dC dI cI cZ h a qph qgr qne qap qle qfu qpc qgd qri qnw qtk qsv qwa qgi qlo qtu n (-2147483648) 0 0 0 hpc hn (by rw [X0_plugIn_T, if_neg (rp_neg (by decide))])) (vx_cwSW 6 hts gL_refuses_L_act rfl rfl rfl hd_L_act ⟨Nat.le_of_ble_eq_true rfl, Nat.le_of_ble_eq_true rfl⟩) hK hNs hZ hP hD hS hA rfl hl.1 (Nat.le_of_ble_eq_true rfl) dL_refuses_291 rfl ⟨Nat.le_of_ble_eq_true rfl, Nat.le_of_ble_eq_true rfl⟩ (fun w2 H locs hB hP hD hS => ?_)
  subst hB
  refine lv_ldc (v := (-70011)) hx hb hown (hts (.constant RL 62 (-70011)) (by decide +kernel)) dL_refuses_294 ?_
  refine lv_icmp_ne (tgt := 484) hx hb dL_refuses_296 (by decide) (fun c => absurd (by decide) c) (fun _ => ?_)
  refine lv_aload_n hx hb dL_refuses_299 rfl (lv_at hl 12 rfl) ?_
  refine lv_iconst (v := 4) hx hb dL_refuses_300 (by decide) ?_
  refine lv_iconst (v := 0) hx hb dL_refuses_301 (by decide) ?_
  refine lv_iload hx hb dL_refuses_302 (lv_at hl 6 rfl) ?_
  refine lv_if_ne (tgt := 311) hx hb dL_refuses_304 (by decide) (fun _ => ?_) (fun c => absurd c (by decide))
  refine lv_iload hx hb dL_refuses_311 (lv_at hl 6 rfl) ?_
  refine lv_iconst (v := 1) hx hb dL_refuses_313 (by decide) ?_
  refine lv_icmp_ne (tgt := 323) hx hb dL_refuses_314 (by decide) (fun _ => ?_) (fun c => absurd c (by decide))
  refine lv_iload hx hb dL_refuses_323 (lv_at hl 5 rfl) ?_
  refine lv_iconst (v := 5) hx hb dL_refuses_325 (by decide) ?_
  refine lv_iconst (v := 5) hx hb dL_refuses_326 (by decide) ?_
  refine lk_callH (rest := []) (As := [.ref h, .int 4, .int 0, .int (-2147483648), .int 5, .int 5]) hC (a_plugIn_2 l hl0 dC dI cI cZ h a qph qgr qne qap qle qfu qpc qgd qri qnw qtk qsv qwa qgi qlo qtu n 0 (-2147483648) 5 5 hpc hn (by rw [X0_plugIn_T, if_pos (rp_zero hpc hn h1), if_neg (show ¬ X0_requireWithin_T (-2147483648) 1 5000 = 0 by decide +kernel)])) (vx_cwSW 6 hts gL_refuses_L_act rfl rfl rfl hd_L_act ⟨Nat.le_of_ble_eq_true rfl, Nat.le_of_ble_eq_true rfl⟩) hK hNs hZ hP hD hS hA rfl hl.1 (Nat.le_of_ble_eq_true rfl) dL_refuses_327 rfl ⟨Nat.le_of_ble_eq_true rfl, Nat.le_of_ble_eq_true rfl⟩ (fun w2 H locs hB hP hD hS => ?_)
  subst hB
  refine lv_ldc (v := (-70012)) hx hb hown (hts (.constant RL 65 (-70012)) (by decide +kernel)) dL_refuses_330 ?_
  refine lv_icmp_ne (tgt := 484) hx hb dL_refuses_332 (by decide) (fun c => absurd (by decide) c) (fun _ => ?_)
  refine lv_aload_n hx hb dL_refuses_335 rfl (lv_at hl 12 rfl) ?_
  refine lv_iconst (v := 4) hx hb dL_refuses_336 (by decide) ?_
  refine lv_iconst (v := 0) hx hb dL_refuses_337 (by decide) ?_
  refine lv_iconst (v := 5) hx hb dL_refuses_338 (by decide) ?_
  refine lv_iload hx hb dL_refuses_339 (lv_at hl 1 rfl) ?_
  refine lv_iconst (v := 5) hx hb dL_refuses_341 (by decide) ?_
  refine lk_callH (rest := []) (As := [.ref h, .int 4, .int 0, .int 5, .int (-2147483648), .int 5]) hC (a_plugIn_2 l hl0 dC dI cI cZ h a qph qgr qne qap qle qfu qpc qgd qri qnw qtk qsv qwa qgi qlo qtu n 0 5 (-2147483648) 5 hpc hn (by rw [X0_plugIn_T, if_pos (rp_zero hpc hn h1), if_pos (show X0_requireWithin_T 5 1 5000 = 0 by decide +kernel), if_neg (show ¬ X0_requireWithin_T (-2147483648) 1 32 = 0 by decide +kernel)])) (vx_cwSW 6 hts gL_refuses_L_act rfl rfl rfl hd_L_act ⟨Nat.le_of_ble_eq_true rfl, Nat.le_of_ble_eq_true rfl⟩) hK hNs hZ hP hD hS hA rfl hl.1 (Nat.le_of_ble_eq_true rfl) dL_refuses_342 rfl ⟨Nat.le_of_ble_eq_true rfl, Nat.le_of_ble_eq_true rfl⟩ (fun w2 H locs hB hP hD hS => ?_)
  subst hB
  refine lv_ldc (v := (-70012)) hx hb hown (hts (.constant RL 65 (-70012)) (by decide +kernel)) dL_refuses_345 ?_
  refine lv_icmp_ne (tgt := 484) hx hb dL_refuses_347 (by decide) (fun c => absurd (by decide) c) (fun _ => ?_)
  refine lv_aload_n hx hb dL_refuses_350 rfl (lv_at hl 12 rfl) ?_
  refine lv_iconst (v := 4) hx hb dL_refuses_351 (by decide) ?_
  refine lv_iconst (v := 0) hx hb dL_refuses_352 (by decide) ?_
  refine lv_iconst (v := 5) hx hb dL_refuses_353 (by decide) ?_
  refine lv_iconst (v := 5) hx hb dL_refuses_354 (by decide) ?_
  refine lv_iload hx hb dL_refuses_355 (lv_at hl 0 rfl) ?_
  refine lk_callH (rest := []) (As := [.ref h, .int 4, .int 0, .int 5, .int 5, .int (-2147483648)]) hC (a_plugIn_2 l hl0 dC dI cI cZ h a qph qgr qne qap qle qfu qpc qgd qri qnw qtk qsv qwa qgi qlo qtu n 0 5 5 (-2147483648) hpc hn (by rw [X0_plugIn_T, if_pos (rp_zero hpc hn h1), if_pos (show X0_requireWithin_T 5 1 5000 = 0 by decide +kernel), if_pos (show X0_requireWithin_T 5 1 32 = 0 by decide +kernel), if_neg (show ¬ X0_requireWithin_T (-2147483648) 1 500 = 0 by decide +kernel)])) (vx_cwSW 6 hts gL_refuses_L_act rfl rfl rfl hd_L_act ⟨Nat.le_of_ble_eq_true rfl, Nat.le_of_ble_eq_true rfl⟩) hK hNs hZ hP hD hS hA rfl hl.1 (Nat.le_of_ble_eq_true rfl) dL_refuses_357 rfl ⟨Nat.le_of_ble_eq_true rfl, Nat.le_of_ble_eq_true rfl⟩ (fun w2 H locs hB hP hD hS => ?_)
  subst hB
  refine lv_ldc (v := (-70012)) hx hb hown (hts (.constant RL 65 (-70012)) (by decide +kernel)) dL_refuses_360 ?_
  refine lv_icmp_ne (tgt := 484) hx hb dL_refuses_362 (by decide) (fun c => absurd (by decide) c) (fun _ => ?_)
  refine lv_aload_n hx hb dL_refuses_365 rfl (lv_at hl 12 rfl) ?_
  refine lv_iconst (v := 5) hx hb dL_refuses_366 (by decide) ?_
  refine lv_iload hx hb dL_refuses_367 (lv_at hl 4 rfl) ?_
  refine lv_iconst (v := 0) hx hb dL_refuses_369 (by decide) ?_
  refine lv_iconst (v := 0) hx hb dL_refuses_370 (by decide) ?_
  refine lv_iconst (v := 0) hx hb dL_refuses_371 (by decide) ?_
  refine lk_callH (rest := []) (As := [.ref h, .int 5, .int (-2147483648), .int 0, .int 0, .int 0]) hC (a_takeOut_1 l hl0 dC dI cI cZ h a qph qgr qne qap qle qfu qpc qgd qri qnw qtk qsv qwa qgi qlo qtu n (-2147483648) 0 0 0 hpc hn (by rw [X0_takeOut_T, if_neg (rp_neg (by decide))])) (vx_cwSW 6 hts gL_refuses_L_act rfl rfl rfl hd_L_act ⟨Nat.le_of_ble_eq_true rfl, Nat.le_of_ble_eq_true rfl⟩) hK hNs hZ hP hD hS hA rfl hl.1 (Nat.le_of_ble_eq_true rfl) dL_refuses_372 rfl ⟨Nat.le_of_ble_eq_true rfl, Nat.le_of_ble_eq_true rfl⟩ (fun w2 H locs hB hP hD hS => ?_)
  subst hB
  refine lv_ldc (v := (-70011)) hx hb hown (hts (.constant RL 62 (-70011)) (by decide +kernel)) dL_refuses_375 ?_
  refine lv_icmp_ne (tgt := 484) hx hb dL_refuses_377 (by decide) (fun c => absurd (by decide) c) (fun _ => ?_)
  refine lv_aload_n hx hb dL_refuses_380 rfl (lv_at hl 12 rfl) ?_
  refine lv_bipush (v := 6) hx hb dL_refuses_381 (by decide) ?_
  refine lv_iload hx hb dL_refuses_383 (lv_at hl 4 rfl) ?_
  refine lv_iconst (v := 0) hx hb dL_refuses_385 (by decide) ?_
  refine lv_iconst (v := 0) hx hb dL_refuses_386 (by decide) ?_
  refine lv_iconst (v := 0) hx hb dL_refuses_387 (by decide) ?_
  refine lk_callH (rest := []) (As := [.ref h, .int 6, .int (-2147483648), .int 0, .int 0, .int 0]) hC (a_appetite_1 l hl0 dC dI cI cZ h a qph qgr qne qap qle qfu qpc qgd qri qnw qtk qsv qwa qgi qlo qtu n (-2147483648) 0 0 0 hpc hn (by rw [X0_appetite_T, if_neg (rp_neg (by decide))])) (vx_cwSW 6 hts gL_refuses_L_act rfl rfl rfl hd_L_act ⟨Nat.le_of_ble_eq_true rfl, Nat.le_of_ble_eq_true rfl⟩) hK hNs hZ hP hD hS hA rfl hl.1 (Nat.le_of_ble_eq_true rfl) dL_refuses_388 rfl ⟨Nat.le_of_ble_eq_true rfl, Nat.le_of_ble_eq_true rfl⟩ (fun w2 H locs hB hP hD hS => ?_)
  subst hB
  refine lv_ldc (v := (-70011)) hx hb hown (hts (.constant RL 62 (-70011)) (by decide +kernel)) dL_refuses_391 ?_
  refine lv_icmp_ne (tgt := 484) hx hb dL_refuses_393 (by decide) (fun c => absurd (by decide) c) (fun _ => ?_)
  refine lv_aload_n hx hb dL_refuses_396 rfl (lv_at hl 12 rfl) ?_
  refine lv_bipush (v := 6) hx hb dL_refuses_397 (by decide) ?_
  refine lv_iconst (v := 0) hx hb dL_refuses_399 (by decide) ?_
  refine lv_iload hx hb dL_refuses_400 (lv_at hl 1 rfl) ?_
  refine lv_iconst (v := 0) hx hb dL_refuses_402 (by decide) ?_
  refine lv_iconst (v := 0) hx hb dL_refuses_403 (by decide) ?_
  refine lk_callH (rest := []) (As := [.ref h, .int 6, .int 0, .int (-2147483648), .int 0, .int 0]) hC (a_appetite_2 l hl0 dC dI cI cZ h a qph qgr qne qap qle qfu qpc qgd qri qnw qtk qsv qwa qgi qlo qtu n 0 (-2147483648) 0 0 hpc hn (by rw [X0_appetite_T, if_pos (rp_zero hpc hn h1), if_neg (show ¬ X0_requireWithin_T (-2147483648) 1 32 = 0 by decide +kernel)])) (vx_cwSW 6 hts gL_refuses_L_act rfl rfl rfl hd_L_act ⟨Nat.le_of_ble_eq_true rfl, Nat.le_of_ble_eq_true rfl⟩) hK hNs hZ hP hD hS hA rfl hl.1 (Nat.le_of_ble_eq_true rfl) dL_refuses_404 rfl ⟨Nat.le_of_ble_eq_true rfl, Nat.le_of_ble_eq_true rfl⟩ (fun w2 H locs hB hP hD hS => ?_)
  subst hB
  refine lv_ldc (v := (-70012)) hx hb hown (hts (.constant RL 65 (-70012)) (by decide +kernel)) dL_refuses_407 ?_
  refine lv_icmp_ne (tgt := 484) hx hb dL_refuses_409 (by decide) (fun c => absurd (by decide) c) (fun _ => ?_)
  refine lv_aload_n hx hb dL_refuses_412 rfl (lv_at hl 12 rfl) ?_
  refine lv_bipush (v := 7) hx hb dL_refuses_413 (by decide) ?_
  refine lv_iload hx hb dL_refuses_415 (lv_at hl 4 rfl) ?_
  refine lv_iconst (v := 0) hx hb dL_refuses_417 (by decide) ?_
  refine lv_iconst (v := 0) hx hb dL_refuses_418 (by decide) ?_
  refine lv_iconst (v := 0) hx hb dL_refuses_419 (by decide) ?_
  refine lk_callH (rest := []) (As := [.ref h, .int 7, .int (-2147483648), .int 0, .int 0, .int 0]) hC (a_stay_1 l hl0 dC dI cI cZ h a qph qgr qne qap qle qfu qpc qgd qri qnw qtk qsv qwa qgi qlo qtu n (-2147483648) 0 0 0 hpc hn (by rw [X0_stay_T, if_neg (rp_neg (by decide))])) (vx_cwSW 6 hts gL_refuses_L_act rfl rfl rfl hd_L_act ⟨Nat.le_of_ble_eq_true rfl, Nat.le_of_ble_eq_true rfl⟩) hK hNs hZ hP hD hS hA rfl hl.1 (Nat.le_of_ble_eq_true rfl) dL_refuses_420 rfl ⟨Nat.le_of_ble_eq_true rfl, Nat.le_of_ble_eq_true rfl⟩ (fun w2 H locs hB hP hD hS => ?_)
  subst hB
  refine lv_ldc (v := (-70011)) hx hb hown (hts (.constant RL 62 (-70011)) (by decide +kernel)) dL_refuses_423 ?_
  refine lv_icmp_ne (tgt := 484) hx hb dL_refuses_425 (by decide) (fun c => absurd (by decide) c) (fun _ => ?_)
  refine lv_aload_n hx hb dL_refuses_428 rfl (lv_at hl 12 rfl) ?_
  refine lv_bipush (v := 7) hx hb dL_refuses_429 (by decide) ?_
  refine lv_iconst (v := 0) hx hb dL_refuses_431 (by decide) ?_
  refine lv_iload hx hb dL_refuses_432 (lv_at hl 0 rfl) ?_
  refine lv_iconst (v := 0) hx hb dL_refuses_434 (by decide) ?_
  refine lv_iconst (v := 0) hx hb dL_refuses_435 (by decide) ?_
  refine lk_callH (rest := []) (As := [.ref h, .int 7, .int 0, .int (-2147483648), .int 0, .int 0]) hC (a_stay_2 l hl0 dC dI cI cZ h a qph qgr qne qap qle qfu qpc qgd qri qnw qtk qsv qwa qgi qlo qtu n 0 (-2147483648) 0 0 hpc hn (by rw [X0_stay_T, if_pos (rp_zero hpc hn h1), if_neg (show ¬ X0_requireWithin_T (-2147483648) 1 500 = 0 by decide +kernel)])) (vx_cwSW 6 hts gL_refuses_L_act rfl rfl rfl hd_L_act ⟨Nat.le_of_ble_eq_true rfl, Nat.le_of_ble_eq_true rfl⟩) hK hNs hZ hP hD hS hA rfl hl.1 (Nat.le_of_ble_eq_true rfl) dL_refuses_436 rfl ⟨Nat.le_of_ble_eq_true rfl, Nat.le_of_ble_eq_true rfl⟩ (fun w2 H locs hB hP hD hS => ?_)
  subst hB
  refine lv_ldc (v := (-70012)) hx hb hown (hts (.constant RL 65 (-70012)) (by decide +kernel)) dL_refuses_439 ?_
  refine lv_icmp_ne (tgt := 484) hx hb dL_refuses_441 (by decide) (fun c => absurd (by decide) c) (fun _ => ?_)
  refine lv_aload_n hx hb dL_refuses_444 rfl (lv_at hl 12 rfl) ?_
  refine lv_bipush (v := 8) hx hb dL_refuses_445 (by decide) ?_
  refine lv_iload hx hb dL_refuses_447 (lv_at hl 6 rfl) ?_
  refine lv_if_ne (tgt := 456) hx hb dL_refuses_449 (by decide) (fun _ => ?_) (fun c => absurd c (by decide))
  refine lv_iload hx hb dL_refuses_456 (lv_at hl 6 rfl) ?_
  refine lv_iconst (v := 1) hx hb dL_refuses_458 (by decide) ?_
  refine lv_icmp_ne (tgt := 467) hx hb dL_refuses_459 (by decide) (fun _ => ?_) (fun c => absurd c (by decide))
  refine lv_iload hx hb dL_refuses_467 (lv_at hl 5 rfl) ?_
  refine lv_iconst (v := 0) hx hb dL_refuses_469 (by decide) ?_
  refine lv_iconst (v := 0) hx hb dL_refuses_470 (by decide) ?_
  refine lv_iconst (v := 0) hx hb dL_refuses_471 (by decide) ?_
  refine lk_callH (rest := []) (As := [.ref h, .int 8, .int (-2147483648), .int 0, .int 0, .int 0]) hC (a_step_1 l hl0 dC dI cI cZ h a qph qgr qne qap qle qfu qpc qgd qri qnw qtk qsv qwa qgi qlo qtu n (-2147483648) 0 0 0 hpc hn (by rw [X0_step_T, if_neg (show ¬ X0_requireWithin_T (-2147483648) 1 50 = 0 by decide +kernel)])) (vx_cwSW 6 hts gL_refuses_L_act rfl rfl rfl hd_L_act ⟨Nat.le_of_ble_eq_true rfl, Nat.le_of_ble_eq_true rfl⟩) hK hNs hZ hP hD hS hA rfl hl.1 (Nat.le_of_ble_eq_true rfl) dL_refuses_472 rfl ⟨Nat.le_of_ble_eq_true rfl, Nat.le_of_ble_eq_true rfl⟩ (fun w2 H locs hB hP hD hS => ?_)
  subst hB
  refine lv_ldc (v := (-70012)) hx hb hown (hts (.constant RL 65 (-70012)) (by decide +kernel)) dL_refuses_475 ?_
  refine lv_icmp_ne (tgt := 484) hx hb dL_refuses_477 (by decide) (fun c => absurd (by decide) c) (fun _ => ?_)
  refine lv_iconst (v := 1) hx hb dL_refuses_480 (by decide) ?_
  refine lv_goto (tgt := 485) hx hb dL_refuses_481 (by decide) ?_
  refine lv_istore (lv' := [(13, .int 1), (12, .int (-2147483648)), (11, .int (-2147483648)), (10, .int (-2147483648)), (9, .int (-2147483648)), (8, .int (-2147483648)), (7, .int (-2147483648)), (6, .int 3), (5, .int 2147483647), (4, .int hd), (3, .int qtk), (2, .int qnw), (1, .int qpc), (0, .ref h)]) hx hb dL_refuses_485 hl (by decide) rfl (fun ls hl => ?_)
  refine lv_bipush (v := 9) hx hb dL_refuses_487 (by decide) ?_
  refine lv_istore (lv' := [(14, .int 9), (13, .int 1), (12, .int (-2147483648)), (11, .int (-2147483648)), (10, .int (-2147483648)), (9, .int (-2147483648)), (8, .int (-2147483648)), (7, .int (-2147483648)), (6, .int 3), (5, .int 2147483647), (4, .int hd), (3, .int qtk), (2, .int qnw), (1, .int qpc), (0, .ref h)]) hx hb dL_refuses_489 hl (by decide) rfl (fun ls hl => ?_)
  refine lv_iload hx hb dL_refuses_491 (lv_at hl 0 rfl) ?_
  refine lv_bipush (v := 14) hx hb dL_refuses_493 (by decide) ?_
  refine lv_icmp_ge (tgt := 532) hx hb dL_refuses_495 (by decide) (fun c => absurd c (by decide)) (fun _ => ?_)
  refine lv_iload hx hb dL_refuses_498 (lv_at hl 1 rfl) ?_
  refine lv_if_eq (tgt := 523) hx hb dL_refuses_500 (by decide) (fun c => absurd c (by decide)) (fun _ => ?_)
  refine lv_aload_n hx hb dL_refuses_503 rfl (lv_at hl 14 rfl) ?_
  refine lv_iload hx hb dL_refuses_504 (lv_at hl 0 rfl) ?_
  refine lv_iload hx hb dL_refuses_506 (lv_at hl 6 rfl) ?_
  refine lv_iconst (v := 0) hx hb dL_refuses_508 (by decide) ?_
  refine lv_iconst (v := 0) hx hb dL_refuses_509 (by decide) ?_
  refine lv_iconst (v := 0) hx hb dL_refuses_510 (by decide) ?_
  refine lk_callH (rest := []) (As := [.ref h, .int 9, .int (-2147483648), .int 0, .int 0, .int 0]) hC (a_need_1 l hl0 dC dI cI cZ h a qph qgr qne qap qle qfu qpc qgd qri qnw qtk qsv qwa qgi qlo qtu n (-2147483648) 0 0 0 hpc hn (by rw [X0_need_T, if_neg (rp_neg (by decide))])) (vx_cwSW 6 hts gL_refuses_L_act rfl rfl rfl hd_L_act ⟨Nat.le_of_ble_eq_true rfl, Nat.le_of_ble_eq_true rfl⟩) hK hNs hZ hP hD hS hA rfl hl.1 (Nat.le_of_ble_eq_true rfl) dL_refuses_511 rfl ⟨Nat.le_of_ble_eq_true rfl, Nat.le_of_ble_eq_true rfl⟩ (fun w2 H locs hB hP hD hS => ?_)
  subst hB
  refine lv_ldc (v := (-70011)) hx hb hown (hts (.constant RL 62 (-70011)) (by decide +kernel)) dL_refuses_514 ?_
  refine lv_icmp_ne (tgt := 523) hx hb dL_refuses_516 (by decide) (fun c => absurd (by decide) c) (fun _ => ?_)
  refine lv_iconst (v := 1) hx hb dL_refuses_519 (by decide) ?_
  refine lv_goto (tgt := 524) hx hb dL_refuses_520 (by decide) ?_
  refine lv_istore (lv' := [(13, .int 1), (14, .int 9), (12, .int (-2147483648)), (11, .int (-2147483648)), (10, .int (-2147483648)), (9, .int (-2147483648)), (8, .int (-2147483648)), (7, .int (-2147483648)), (6, .int 3), (5, .int 2147483647), (4, .int hd), (3, .int qtk), (2, .int qnw), (1, .int qpc), (0, .ref h)]) hx hb dL_refuses_524 hl (by decide) rfl (fun ls hl => ?_)
  refine lv_iinc (v := 10) (lv' := [(14, .int 10), (13, .int 1), (12, .int (-2147483648)), (11, .int (-2147483648)), (10, .int (-2147483648)), (9, .int (-2147483648)), (8, .int (-2147483648)), (7, .int (-2147483648)), (6, .int 3), (5, .int 2147483647), (4, .int hd), (3, .int qtk), (2, .int qnw), (1, .int qpc), (0, .ref h)]) hx hb dL_refuses_526 hl (k := 1) rfl (by decide) (by decide) rfl (fun ls hl => ?_)
  refine lv_goto (tgt := 491) hx hb dL_refuses_529 (by decide) ?_
  refine lv_iload hx hb dL_refuses_491 (lv_at hl 0 rfl) ?_
  refine lv_bipush (v := 14) hx hb dL_refuses_493 (by decide) ?_
  refine lv_icmp_ge (tgt := 532) hx hb dL_refuses_495 (by decide) (fun c => absurd c (by decide)) (fun _ => ?_)
  refine lv_iload hx hb dL_refuses_498 (lv_at hl 1 rfl) ?_
  refine lv_if_eq (tgt := 523) hx hb dL_refuses_500 (by decide) (fun c => absurd c (by decide)) (fun _ => ?_)
  refine lv_aload_n hx hb dL_refuses_503 rfl (lv_at hl 14 rfl) ?_
  refine lv_iload hx hb dL_refuses_504 (lv_at hl 0 rfl) ?_
  refine lv_iload hx hb dL_refuses_506 (lv_at hl 6 rfl) ?_
  refine lv_iconst (v := 0) hx hb dL_refuses_508 (by decide) ?_
  refine lv_iconst (v := 0) hx hb dL_refuses_509 (by decide) ?_
  refine lv_iconst (v := 0) hx hb dL_refuses_510 (by decide) ?_
  refine lk_callH (rest := []) (As := [.ref h, .int 10, .int (-2147483648), .int 0, .int 0, .int 0]) hC (a_left_1 l hl0 dC dI cI cZ h a qph qgr qne qap qle qfu qpc qgd qri qnw qtk qsv qwa qgi qlo qtu n (-2147483648) 0 0 0 hpc hn (by rw [X0_left_T, if_neg (rp_neg (by decide))])) (vx_cwSW 6 hts gL_refuses_L_act rfl rfl rfl hd_L_act ⟨Nat.le_of_ble_eq_true rfl, Nat.le_of_ble_eq_true rfl⟩) hK hNs hZ hP hD hS hA rfl hl.1 (Nat.le_of_ble_eq_true rfl) dL_refuses_511 rfl ⟨Nat.le_of_ble_eq_true rfl, Nat.le_of_ble_eq_true rfl⟩ (fun w2 H locs hB hP hD hS => ?_)
  subst hB
  refine lv_ldc (v := (-70011)) hx hb hown (hts (.constant RL 62 (-70011)) (by decide +kernel)) dL_refuses_514 ?_
  refine lv_icmp_ne (tgt := 523) hx hb dL_refuses_516 (by decide) (fun c => absurd (by decide) c) (fun _ => ?_)
  refine lv_iconst (v := 1) hx hb dL_refuses_519 (by decide) ?_
  refine lv_goto (tgt := 524) hx hb dL_refuses_520 (by decide) ?_
  refine lv_istore (lv' := [(13, .int 1), (14, .int 10), (12, .int (-2147483648)), (11, .int (-2147483648)), (10, .int (-2147483648)), (9, .int (-2147483648)), (8, .int (-2147483648)), (7, .int (-2147483648)), (6, .int 3), (5, .int 2147483647), (4, .int hd), (3, .int qtk), (2, .int qnw), (1, .int qpc), (0, .ref h)]) hx hb dL_refuses_524 hl (by decide) rfl (fun ls hl => ?_)
  refine lv_iinc (v := 11) (lv' := [(14, .int 11), (13, .int 1), (12, .int (-2147483648)), (11, .int (-2147483648)), (10, .int (-2147483648)), (9, .int (-2147483648)), (8, .int (-2147483648)), (7, .int (-2147483648)), (6, .int 3), (5, .int 2147483647), (4, .int hd), (3, .int qtk), (2, .int qnw), (1, .int qpc), (0, .ref h)]) hx hb dL_refuses_526 hl (k := 1) rfl (by decide) (by decide) rfl (fun ls hl => ?_)
  refine lv_goto (tgt := 491) hx hb dL_refuses_529 (by decide) ?_
  refine lv_iload hx hb dL_refuses_491 (lv_at hl 0 rfl) ?_
  refine lv_bipush (v := 14) hx hb dL_refuses_493 (by decide) ?_
  refine lv_icmp_ge (tgt := 532) hx hb dL_refuses_495 (by decide) (fun c => absurd c (by decide)) (fun _ => ?_)
  refine lv_iload hx hb dL_refuses_498 (lv_at hl 1 rfl) ?_
  refine lv_if_eq (tgt := 523) hx hb dL_refuses_500 (by decide) (fun c => absurd c (by decide)) (fun _ => ?_)
  refine lv_aload_n hx hb dL_refuses_503 rfl (lv_at hl 14 rfl) ?_
  refine lv_iload hx hb dL_refuses_504 (lv_at hl 0 rfl) ?_
  refine lv_iload hx hb dL_refuses_506 (lv_at hl 6 rfl) ?_
  refine lv_iconst (v := 0) hx hb dL_refuses_508 (by decide) ?_
  refine lv_iconst (v := 0) hx hb dL_refuses_509 (by decide) ?_
  refine lv_iconst (v := 0) hx hb dL_refuses_510 (by decide) ?_
  refine lk_callH (rest := []) (As := [.ref h, .int 11, .int (-2147483648), .int 0, .int 0, .int 0]) hC (a_laxity_1 l hl0 dC dI cI cZ h a qph qgr qne qap qle qfu qpc qgd qri qnw qtk qsv qwa qgi qlo qtu n (-2147483648) 0 0 0 hpc hn (by rw [X0_laxity_T, if_neg (rp_neg (by decide))])) (vx_cwSW 6 hts gL_refuses_L_act rfl rfl rfl hd_L_act ⟨Nat.le_of_ble_eq_true rfl, Nat.le_of_ble_eq_true rfl⟩) hK hNs hZ hP hD hS hA rfl hl.1 (Nat.le_of_ble_eq_true rfl) dL_refuses_511 rfl ⟨Nat.le_of_ble_eq_true rfl, Nat.le_of_ble_eq_true rfl⟩ (fun w2 H locs hB hP hD hS => ?_)
  subst hB
  refine lv_ldc (v := (-70011)) hx hb hown (hts (.constant RL 62 (-70011)) (by decide +kernel)) dL_refuses_514 ?_
  refine lv_icmp_ne (tgt := 523) hx hb dL_refuses_516 (by decide) (fun c => absurd (by decide) c) (fun _ => ?_)
  refine lv_iconst (v := 1) hx hb dL_refuses_519 (by decide) ?_
  refine lv_goto (tgt := 524) hx hb dL_refuses_520 (by decide) ?_
  refine lv_istore (lv' := [(13, .int 1), (14, .int 11), (12, .int (-2147483648)), (11, .int (-2147483648)), (10, .int (-2147483648)), (9, .int (-2147483648)), (8, .int (-2147483648)), (7, .int (-2147483648)), (6, .int 3), (5, .int 2147483647), (4, .int hd), (3, .int qtk), (2, .int qnw), (1, .int qpc), (0, .ref h)]) hx hb dL_refuses_524 hl (by decide) rfl (fun ls hl => ?_)
  refine lv_iinc (v := 12) (lv' := [(14, .int 12), (13, .int 1), (12, .int (-2147483648)), (11, .int (-2147483648)), (10, .int (-2147483648)), (9, .int (-2147483648)), (8, .int (-2147483648)), (7, .int (-2147483648)), (6, .int 3), (5, .int 2147483647), (4, .int hd), (3, .int qtk), (2, .int qnw), (1, .int qpc), (0, .ref h)]) hx hb dL_refuses_526 hl (k := 1) rfl (by decide) (by decide) rfl (fun ls hl => ?_)
  refine lv_goto (tgt := 491) hx hb dL_refuses_529 (by decide) ?_
  refine lv_iload hx hb dL_refuses_491 (lv_at hl 0 rfl) ?_
  refine lv_bipush (v := 14) hx hb dL_refuses_493 (by decide) ?_
  refine lv_icmp_ge (tgt := 532) hx hb dL_refuses_495 (by decide) (fun c => absurd c (by decide)) (fun _ => ?_)
  refine lv_iload hx hb dL_refuses_498 (lv_at hl 1 rfl) ?_
  refine lv_if_eq (tgt := 523) hx hb dL_refuses_500 (by decide) (fun c => absurd c (by decide)) (fun _ => ?_)
  refine lv_aload_n hx hb dL_refuses_503 rfl (lv_at hl 14 rfl) ?_
  refine lv_iload hx hb dL_refuses_504 (lv_at hl 0 rfl) ?_
  refine lv_iload hx hb dL_refuses_506 (lv_at hl 6 rfl) ?_
  refine lv_iconst (v := 0) hx hb dL_refuses_508 (by decide) ?_
  refine lv_iconst (v := 0) hx hb dL_refuses_509 (by decide) ?_
  refine lv_iconst (v := 0) hx hb dL_refuses_510 (by decide) ?_
  refine lk_callH (rest := []) (As := [.ref h, .int 12, .int (-2147483648), .int 0, .int 0, .int 0]) hC (a_reach_1 l hl0 dC dI cI cZ h a qph qgr qne qap qle qfu qpc qgd qri qnw qtk qsv qwa qgi qlo qtu n (-2147483648) 0 0 0 hpc hn (by rw [X0_reach_T, if_neg (rp_neg (by decide))])) (vx_cwSW 6 hts gL_refuses_L_act rfl rfl rfl hd_L_act ⟨Nat.le_of_ble_eq_true rfl, Nat.le_of_ble_eq_true rfl⟩) hK hNs hZ hP hD hS hA rfl hl.1 (Nat.le_of_ble_eq_true rfl) dL_refuses_511 rfl ⟨Nat.le_of_ble_eq_true rfl, Nat.le_of_ble_eq_true rfl⟩ (fun w2 H locs hB hP hD hS => ?_)
  subst hB
  refine lv_ldc (v := (-70011)) hx hb hown (hts (.constant RL 62 (-70011)) (by decide +kernel)) dL_refuses_514 ?_
  refine lv_icmp_ne (tgt := 523) hx hb dL_refuses_516 (by decide) (fun c => absurd (by decide) c) (fun _ => ?_)
  refine lv_iconst (v := 1) hx hb dL_refuses_519 (by decide) ?_
  refine lv_goto (tgt := 524) hx hb dL_refuses_520 (by decide) ?_
  refine lv_istore (lv' := [(13, .int 1), (14, .int 12), (12, .int (-2147483648)), (11, .int (-2147483648)), (10, .int (-2147483648)), (9, .int (-2147483648)), (8, .int (-2147483648)), (7, .int (-2147483648)), (6, .int 3), (5, .int 2147483647), (4, .int hd), (3, .int qtk), (2, .int qnw), (1, .int qpc), (0, .ref h)]) hx hb dL_refuses_524 hl (by decide) rfl (fun ls hl => ?_)
  refine lv_iinc (v := 13) (lv' := [(14, .int 13), (13, .int 1), (12, .int (-2147483648)), (11, .int (-2147483648)), (10, .int (-2147483648)), (9, .int (-2147483648)), (8, .int (-2147483648)), (7, .int (-2147483648)), (6, .int 3), (5, .int 2147483647), (4, .int hd), (3, .int qtk), (2, .int qnw), (1, .int qpc), (0, .ref h)]) hx hb dL_refuses_526 hl (k := 1) rfl (by decide) (by decide) rfl (fun ls hl => ?_)
  refine lv_goto (tgt := 491) hx hb dL_refuses_529 (by decide) ?_
  refine lv_iload hx hb dL_refuses_491 (lv_at hl 0 rfl) ?_
  refine lv_bipush (v := 14) hx hb dL_refuses_493 (by decide) ?_
  refine lv_icmp_ge (tgt := 532) hx hb dL_refuses_495 (by decide) (fun c => absurd c (by decide)) (fun _ => ?_)
  refine lv_iload hx hb dL_refuses_498 (lv_at hl 1 rfl) ?_
  refine lv_if_eq (tgt := 523) hx hb dL_refuses_500 (by decide) (fun c => absurd c (by decide)) (fun _ => ?_)
  refine lv_aload_n hx hb dL_refuses_503 rfl (lv_at hl 14 rfl) ?_
  refine lv_iload hx hb dL_refuses_504 (lv_at hl 0 rfl) ?_
  refine lv_iload hx hb dL_refuses_506 (lv_at hl 6 rfl) ?_
  refine lv_iconst (v := 0) hx hb dL_refuses_508 (by decide) ?_
  refine lv_iconst (v := 0) hx hb dL_refuses_509 (by decide) ?_
  refine lv_iconst (v := 0) hx hb dL_refuses_510 (by decide) ?_
  refine lk_callH (rest := []) (As := [.ref h, .int 13, .int (-2147483648), .int 0, .int 0, .int 0]) hC (a_current_1 l hl0 dC dI cI cZ h a qph qgr qne qap qle qfu qpc qgd qri qnw qtk qsv qwa qgi qlo qtu n (-2147483648) 0 0 0 hpc hn (by rw [X0_current_T, if_neg (rp_neg (by decide))])) (vx_cwSW 6 hts gL_refuses_L_act rfl rfl rfl hd_L_act ⟨Nat.le_of_ble_eq_true rfl, Nat.le_of_ble_eq_true rfl⟩) hK hNs hZ hP hD hS hA rfl hl.1 (Nat.le_of_ble_eq_true rfl) dL_refuses_511 rfl ⟨Nat.le_of_ble_eq_true rfl, Nat.le_of_ble_eq_true rfl⟩ (fun w2 H locs hB hP hD hS => ?_)
  subst hB
  refine lv_ldc (v := (-70011)) hx hb hown (hts (.constant RL 62 (-70011)) (by decide +kernel)) dL_refuses_514 ?_
  refine lv_icmp_ne (tgt := 523) hx hb dL_refuses_516 (by decide) (fun c => absurd (by decide) c) (fun _ => ?_)
  refine lv_iconst (v := 1) hx hb dL_refuses_519 (by decide) ?_
  refine lv_goto (tgt := 524) hx hb dL_refuses_520 (by decide) ?_
  refine lv_istore (lv' := [(13, .int 1), (14, .int 13), (12, .int (-2147483648)), (11, .int (-2147483648)), (10, .int (-2147483648)), (9, .int (-2147483648)), (8, .int (-2147483648)), (7, .int (-2147483648)), (6, .int 3), (5, .int 2147483647), (4, .int hd), (3, .int qtk), (2, .int qnw), (1, .int qpc), (0, .ref h)]) hx hb dL_refuses_524 hl (by decide) rfl (fun ls hl => ?_)
  refine lv_iinc (v := 14) (lv' := [(14, .int 14), (13, .int 1), (12, .int (-2147483648)), (11, .int (-2147483648)), (10, .int (-2147483648)), (9, .int (-2147483648)), (8, .int (-2147483648)), (7, .int (-2147483648)), (6, .int 3), (5, .int 2147483647), (4, .int hd), (3, .int qtk), (2, .int qnw), (1, .int qpc), (0, .ref h)]) hx hb dL_refuses_526 hl (k := 1) rfl (by decide) (by decide) rfl (fun ls hl => ?_)
  refine lv_goto (tgt := 491) hx hb dL_refuses_529 (by decide) ?_
  refine lv_iload hx hb dL_refuses_491 (lv_at hl 0 rfl) ?_
  refine lv_bipush (v := 14) hx hb dL_refuses_493 (by decide) ?_
  refine lv_icmp_ge (tgt := 532) hx hb dL_refuses_495 (by decide) (fun _ => ?_) (fun c => absurd (by decide) c)
  refine lv_iload hx hb dL_refuses_532 (lv_at hl 1 rfl) ?_
  refine lv_if_eq (tgt := 569) hx hb dL_refuses_534 (by decide) (fun c => absurd c (by decide)) (fun _ => ?_)
  refine lv_aload_n hx hb dL_refuses_537 rfl (lv_at hl 14 rfl) ?_
  refine lv_bipush (v := 14) hx hb dL_refuses_538 (by decide) ?_
  refine lv_iload hx hb dL_refuses_540 (lv_at hl 5 rfl) ?_
  refine lv_iconst (v := 0) hx hb dL_refuses_542 (by decide) ?_
  refine lv_iconst (v := 0) hx hb dL_refuses_543 (by decide) ?_
  refine lv_iconst (v := 0) hx hb dL_refuses_544 (by decide) ?_
  refine lk_callH (rest := []) (As := [.ref h, .int 14, .int (-2147483648), .int 0, .int 0, .int 0]) hC (a_load_1 l hl0 dC dI cI cZ h a qph qgr qne qap qle qfu qpc qgd qri qnw qtk qsv qwa qgi qlo qtu n (-2147483648) 0 0 0 hpc hn (by rw [X0_load_T, if_neg (show ¬ X0_requirePhase_T (-2147483648) = 0 by decide +kernel)])) (vx_cwSW 6 hts gL_refuses_L_act rfl rfl rfl hd_L_act ⟨Nat.le_of_ble_eq_true rfl, Nat.le_of_ble_eq_true rfl⟩) hK hNs hZ hP hD hS hA rfl hl.1 (Nat.le_of_ble_eq_true rfl) dL_refuses_545 rfl ⟨Nat.le_of_ble_eq_true rfl, Nat.le_of_ble_eq_true rfl⟩ (fun w2 H locs hB hP hD hS => ?_)
  subst hB
  refine lv_ldc (v := (-70012)) hx hb hown (hts (.constant RL 65 (-70012)) (by decide +kernel)) dL_refuses_548 ?_
  refine lv_icmp_ne (tgt := 569) hx hb dL_refuses_550 (by decide) (fun c => absurd (by decide) c) (fun _ => ?_)
  refine lv_aload_n hx hb dL_refuses_553 rfl (lv_at hl 14 rfl) ?_
  refine lv_bipush (v := 15) hx hb dL_refuses_554 (by decide) ?_
  refine lv_iload hx hb dL_refuses_556 (lv_at hl 5 rfl) ?_
  refine lv_iconst (v := 0) hx hb dL_refuses_558 (by decide) ?_
  refine lv_iconst (v := 0) hx hb dL_refuses_559 (by decide) ?_
  refine lv_iconst (v := 0) hx hb dL_refuses_560 (by decide) ?_
  refine lk_callH (rest := []) (As := [.ref h, .int 15, .int (-2147483648), .int 0, .int 0, .int 0]) hC (a_fairLevel_1 l hl0 dC dI cI cZ h a qph qgr qne qap qle qfu qpc qgd qri qnw qtk qsv qwa qgi qlo qtu n (-2147483648) 0 0 0 hpc hn (by rw [X0_fairLevel_T, if_neg (show ¬ X0_requirePhase_T (-2147483648) = 0 by decide +kernel)])) (vx_cwSW 6 hts gL_refuses_L_act rfl rfl rfl hd_L_act ⟨Nat.le_of_ble_eq_true rfl, Nat.le_of_ble_eq_true rfl⟩) hK hNs hZ hP hD hS hA rfl hl.1 (Nat.le_of_ble_eq_true rfl) dL_refuses_561 rfl ⟨Nat.le_of_ble_eq_true rfl, Nat.le_of_ble_eq_true rfl⟩ (fun w2 H locs hB hP hD hS => ?_)
  subst hB
  refine lv_ldc (v := (-70012)) hx hb hown (hts (.constant RL 65 (-70012)) (by decide +kernel)) dL_refuses_564 ?_
  refine lv_icmp_eq (tgt := 571) hx hb dL_refuses_566 (by decide) (fun _ => ?_) (fun c => absurd (by decide) c)
  refine lv_iinc (v := 4) (lv' := [(6, .int 4), (14, .int 14), (13, .int 1), (12, .int (-2147483648)), (11, .int (-2147483648)), (10, .int (-2147483648)), (9, .int (-2147483648)), (8, .int (-2147483648)), (7, .int (-2147483648)), (5, .int 2147483647), (4, .int hd), (3, .int qtk), (2, .int qnw), (1, .int qpc), (0, .ref h)]) hx hb dL_refuses_571 hl (k := 8) rfl (by decide) (by decide) rfl (fun ls hl => ?_)
  refine lv_goto (tgt := 28) hx hb dL_refuses_574 (by decide) ?_
  exact hnext H locs ls hP hD hS (lv_sub hl [0, 9, 10, 11, 12, 13, 14] rfl)
set_option maxHeartbeats 4000000 in
set_option maxRecDepth 100000 in
theorem c_L_refuses (l : Launch) (hl0 : l.stackTraces = false) (dC : Nat → ClassId) (dI : Nat → Nat → Nat) (cI cZ : ClassId) (h : Nat) (a : Nat → Nat) (qph : AR) (qgr : AR) (qne : AR) (qap : AR) (qle : AR) (qfu : AR) (qpc : Int32) (qgd : Int32) (qri : Int32) (qnw : Int32) (qtk : Int32) (qsv : Int32) (qwa : AR) (qgi : AR) (qlo : AR) (qtu : AR) (n : Nat) (hpc : qpc = nI n) (hn : n ≤ 8) (h1 : 1 ≤ n) (hd : Int32) (hv : ∀ (wa gi lo tu : AR), ((X0_held qph qgr qne qap qle qfu qgd qri qnw wa gi lo tu n).1) = hd) : Lk l yL_refuses wsL_refuses rmL_refuses dC dI cI cZ [.ref h] (xW cI cZ h a qph qgr qne qap qle qfu qpc qgd qri qnw qtk qsv qwa qgi qlo qtu) 1 (fun w2 => ∃ wa gi lo tu : AR, w2 = (xW cI cZ h a qph qgr qne qap qle qfu qpc qgd qri qnw qtk qsv wa gi lo tu)) 92 552 := by
  refine lk_enter (cc := cL_refuses) (maxL := 15) (by decide) rfl (Nat.le_of_ble_eq_true rfl) ?_
  intro p e s m args below meth c A ls Q hC hK hNs hZ hP hD hS hA hl hret
  obtain ⟨hx, hb, hml, hown, hts⟩ := id hC
  have hl : lv_has ls 15 [(0, .ref h)] := hl
  refine lv_aload_n hx hb dL_refuses_0 rfl (lv_at hl 0 rfl) ?_
  refine lk_park (rest := []) (As := []) (v := qpc) hC (c_X0_points l dC dI cI cZ h a qph qgr qne qap qle qfu qpc qgd qri qnw qtk qsv qwa qgi qlo qtu) rfl (cwV 0 hts gL_refuses_X0_points rfl rfl rfl hd_X0_points ⟨Nat.le_of_ble_eq_true rfl, Nat.le_of_ble_eq_true rfl⟩) hK hP hD hS hA rfl rfl hl.1 (Nat.le_of_ble_eq_true rfl) dL_refuses_1 rfl ⟨Nat.le_of_ble_eq_true rfl, Nat.le_of_ble_eq_true rfl⟩ (fun qwa qgi qlo qtu H locs hP hD hS => ?_)
  refine lv_istore_n (lv' := [(1, .int qpc), (0, .ref h)]) hx hb dL_refuses_4 rfl hl (by decide) rfl (fun ls hl => ?_)
  refine lv_aload_n hx hb dL_refuses_5 rfl (lv_at hl 1 rfl) ?_
  refine lk_park (rest := []) (As := []) (v := qnw) hC (c_X0_time l dC dI cI cZ h a qph qgr qne qap qle qfu qpc qgd qri qnw qtk qsv qwa qgi qlo qtu) rfl (cwV 0 hts gL_refuses_X0_time rfl rfl rfl hd_X0_time ⟨Nat.le_of_ble_eq_true rfl, Nat.le_of_ble_eq_true rfl⟩) hK hP hD hS hA rfl rfl hl.1 (Nat.le_of_ble_eq_true rfl) dL_refuses_6 rfl ⟨Nat.le_of_ble_eq_true rfl, Nat.le_of_ble_eq_true rfl⟩ (fun qwa qgi qlo qtu H locs hP hD hS => ?_)
  refine lv_istore_n (lv' := [(2, .int qnw), (1, .int qpc), (0, .ref h)]) hx hb dL_refuses_9 rfl hl (by decide) rfl (fun ls hl => ?_)
  refine lv_aload_n hx hb dL_refuses_10 rfl (lv_at hl 2 rfl) ?_
  refine lk_park (rest := []) (As := []) (v := qtk) hC (c_X0_taken l dC dI cI cZ h a qph qgr qne qap qle qfu qpc qgd qri qnw qtk qsv qwa qgi qlo qtu) rfl (cwV 0 hts gL_refuses_X0_taken rfl rfl rfl hd_X0_taken ⟨Nat.le_of_ble_eq_true rfl, Nat.le_of_ble_eq_true rfl⟩) hK hP hD hS hA rfl rfl hl.1 (Nat.le_of_ble_eq_true rfl) dL_refuses_11 rfl ⟨Nat.le_of_ble_eq_true rfl, Nat.le_of_ble_eq_true rfl⟩ (fun qwa qgi qlo qtu H locs hP hD hS => ?_)
  refine lv_istore_n (lv' := [(3, .int qtk), (2, .int qnw), (1, .int qpc), (0, .ref h)]) hx hb dL_refuses_14 rfl hl (by decide) rfl (fun ls hl => ?_)
  refine lv_aload_n hx hb dL_refuses_15 rfl (lv_at hl 3 rfl) ?_
  refine lk_park (rest := []) (As := []) (v := hd) hC (c_X0_held l dC dI cI cZ h a qph qgr qne qap qle qfu qpc qgd qri qnw qtk qsv qwa qgi qlo qtu n hpc hn) (hv _ _ _ _) (cwV 0 hts gL_refuses_X0_held rfl rfl rfl hd_X0_held ⟨Nat.le_of_ble_eq_true rfl, Nat.le_of_ble_eq_true rfl⟩) hK hP hD hS hA rfl rfl hl.1 (Nat.le_of_ble_eq_true rfl) dL_refuses_16 rfl ⟨Nat.le_of_ble_eq_true rfl, Nat.le_of_ble_eq_true rfl⟩ (fun qwa qgi qlo qtu H locs hP hD hS => ?_)
  refine lv_istore (lv' := [(4, .int hd), (3, .int qtk), (2, .int qnw), (1, .int qpc), (0, .ref h)]) hx hb dL_refuses_19 hl (by decide) rfl (fun ls hl => ?_)
  refine lv_ldc (v := 2147483647) hx hb hown (hts (.constant RL 82 (2147483647)) (by decide +kernel)) dL_refuses_21 ?_
  refine lv_istore (lv' := [(5, .int 2147483647), (4, .int hd), (3, .int qtk), (2, .int qnw), (1, .int qpc), (0, .ref h)]) hx hb dL_refuses_23 hl (by decide) rfl (fun ls hl => ?_)
  refine lv_iconst (v := 0) hx hb dL_refuses_25 (by decide) ?_
  refine lv_istore (lv' := [(6, .int 0), (5, .int 2147483647), (4, .int hd), (3, .int qtk), (2, .int qnw), (1, .int qpc), (0, .ref h)]) hx hb dL_refuses_26 hl (by decide) rfl (fun ls hl => ?_)
  refine rf_it0 hC hl0 hK hNs hZ hA hpc hn h1 (rf_it1 hC hl0 hK hNs hZ hA hpc hn h1 (rf_it2 hC hl0 hK hNs hZ hA hpc hn h1 (rf_it3 hC hl0 hK hNs hZ hA hpc hn h1 ?_))) H locs ls hP hD hS hl
  intro H locs ls hP hD hS hl
  refine lv_iload hx hb dL_refuses_28 (lv_at hl 0 rfl) ?_
  refine lv_iconst (v := 4) hx hb dL_refuses_30 (by decide) ?_
  refine lv_icmp_ge (tgt := 577) hx hb dL_refuses_31 (by decide) (fun _ => ?_) (fun c => absurd (by decide) c)
  refine lv_aload_n hx hb dL_refuses_577 rfl (lv_at hl 6 rfl) ?_
  refine lk_park (rest := []) (As := []) (v := qpc) hC (c_X0_points l dC dI cI cZ h a qph qgr qne qap qle qfu qpc qgd qri qnw qtk qsv qwa qgi qlo qtu) rfl (cwV 0 hts gL_refuses_X0_points rfl rfl rfl hd_X0_points ⟨Nat.le_of_ble_eq_true rfl, Nat.le_of_ble_eq_true rfl⟩) hK hP hD hS hA rfl rfl hl.1 (Nat.le_of_ble_eq_true rfl) dL_refuses_578 rfl ⟨Nat.le_of_ble_eq_true rfl, Nat.le_of_ble_eq_true rfl⟩ (fun qwa qgi qlo qtu H locs hP hD hS => ?_)
  refine lv_iload_n hx hb dL_refuses_581 rfl (lv_at hl 5 rfl) ?_
  refine lv_icmp_ne (tgt := 614) hx hb dL_refuses_582 (by decide) (fun c => absurd rfl c) (fun _ => ?_)
  refine lv_aload_n hx hb dL_refuses_585 rfl (lv_at hl 6 rfl) ?_
  refine lk_park (rest := []) (As := []) (v := qnw) hC (c_X0_time l dC dI cI cZ h a qph qgr qne qap qle qfu qpc qgd qri qnw qtk qsv qwa qgi qlo qtu) rfl (cwV 0 hts gL_refuses_X0_time rfl rfl rfl hd_X0_time ⟨Nat.le_of_ble_eq_true rfl, Nat.le_of_ble_eq_true rfl⟩) hK hP hD hS hA rfl rfl hl.1 (Nat.le_of_ble_eq_true rfl) dL_refuses_586 rfl ⟨Nat.le_of_ble_eq_true rfl, Nat.le_of_ble_eq_true rfl⟩ (fun qwa qgi qlo qtu H locs hP hD hS => ?_)
  refine lv_iload_n hx hb dL_refuses_589 rfl (lv_at hl 4 rfl) ?_
  refine lv_icmp_ne (tgt := 614) hx hb dL_refuses_590 (by decide) (fun c => absurd rfl c) (fun _ => ?_)
  refine lv_aload_n hx hb dL_refuses_593 rfl (lv_at hl 6 rfl) ?_
  refine lk_park (rest := []) (As := []) (v := qtk) hC (c_X0_taken l dC dI cI cZ h a qph qgr qne qap qle qfu qpc qgd qri qnw qtk qsv qwa qgi qlo qtu) rfl (cwV 0 hts gL_refuses_X0_taken rfl rfl rfl hd_X0_taken ⟨Nat.le_of_ble_eq_true rfl, Nat.le_of_ble_eq_true rfl⟩) hK hP hD hS hA rfl rfl hl.1 (Nat.le_of_ble_eq_true rfl) dL_refuses_594 rfl ⟨Nat.le_of_ble_eq_true rfl, Nat.le_of_ble_eq_true rfl⟩ (fun qwa qgi qlo qtu H locs hP hD hS => ?_)
  refine lv_iload_n hx hb dL_refuses_597 rfl (lv_at hl 3 rfl) ?_
  refine lv_icmp_ne (tgt := 614) hx hb dL_refuses_598 (by decide) (fun c => absurd rfl c) (fun _ => ?_)
  refine lv_aload_n hx hb dL_refuses_601 rfl (lv_at hl 6 rfl) ?_
  refine lk_park (rest := []) (As := []) (v := hd) hC (c_X0_held l dC dI cI cZ h a qph qgr qne qap qle qfu qpc qgd qri qnw qtk qsv qwa qgi qlo qtu n hpc hn) (hv _ _ _ _) (cwV 0 hts gL_refuses_X0_held rfl rfl rfl hd_X0_held ⟨Nat.le_of_ble_eq_true rfl, Nat.le_of_ble_eq_true rfl⟩) hK hP hD hS hA rfl rfl hl.1 (Nat.le_of_ble_eq_true rfl) dL_refuses_602 rfl ⟨Nat.le_of_ble_eq_true rfl, Nat.le_of_ble_eq_true rfl⟩ (fun qwa qgi qlo qtu H locs hP hD hS => ?_)
  refine lv_iload hx hb dL_refuses_605 (lv_at hl 2 rfl) ?_
  refine lv_icmp_ne (tgt := 614) hx hb dL_refuses_607 (by decide) (fun c => absurd rfl c) (fun _ => ?_)
  refine lv_iconst (v := 1) hx hb dL_refuses_610 (by decide) ?_
  refine lv_goto (tgt := 615) hx hb dL_refuses_611 (by decide) ?_
  exact hret H locs _ 615 ls ⟨_, _, _, _, rfl⟩ hS hP hD dL_refuses_615
