theorem in_app {big a b : List Cond} (ha : ∀ w ∈ a, w ∈ big) (hb : ∀ w ∈ b, w ∈ big) : ∀ w ∈ a ++ b, w ∈ big := fun w h => (List.mem_append.mp h).elim (ha w) (hb w)
set_option maxRecDepth 20000 in
theorem wsL_law_in0_r1_0 : ∀ w ∈ ([Cond.classLink RL 8 RX0, Cond.instantiable RX0 16, Cond.initialized RX0, Cond.constant RL 68 (-70013), Cond.methodLink RL 111 yL_shares, Cond.static yL_shares, Cond.initialized RL] : List Cond), w ∈ lw_tbl := fun w h => (goodIn_p [Cond.classLink RL 8 RX0, Cond.instantiable RX0 16, Cond.initialized RX0, Cond.constant RL 68 (-70013), Cond.methodLink RL 111 yL_shares, Cond.static yL_shares, Cond.initialized RL] [] (by decide +kernel) (by decide +kernel) w h).1
set_option maxRecDepth 100000 in
theorem wsL_law_in0_r1_1 : ∀ w ∈ ([Cond.code yL_shares cL_shares 1 (some .boolean)] : List Cond), w ∈ lw_tbl := fun w h => by
  rcases List.mem_singleton.mp h with rfl
  exact List.mem_of_getElem? (i := 406) rfl
set_option maxRecDepth 20000 in
theorem wsL_law_in0_r1_2 : ∀ w ∈ ([Cond.constant RL 62 (-70011), Cond.methodLink RL 92 yX0_init, Cond.instanceMethod yX0_init, Cond.code yX0_init cX0_init 2 none, Cond.methodLink RX0 1 objectInit, Cond.instanceMethod objectInit, Cond.code objectInit ⟨#[0xb1]⟩ 1 none, Cond.arrayClass .int, Cond.fieldLink RX0 9 "ChargePark" "phaseOf" "[I", Cond.fieldLink RX0 13 "ChargePark" "greatestOf" "[I", Cond.fieldLink RX0 16 "ChargePark" "needOf" "[I", Cond.fieldLink RX0 19 "ChargePark" "appetiteOf" "[I", Cond.fieldLink RX0 22 "ChargePark" "leavesAt" "[I", Cond.fieldLink RX0 25 "ChargePark" "wanted" "[I", Cond.fieldLink RX0 28 "ChargePark" "given" "[I", Cond.fieldLink RX0 31 "ChargePark" "turns" "[I"] : List Cond), w ∈ lw_tbl := fun w h => (goodIn_p [Cond.constant RL 62 (-70011), Cond.methodLink RL 92 yX0_init, Cond.instanceMethod yX0_init, Cond.code yX0_init cX0_init 2 none, Cond.methodLink RX0 1 objectInit, Cond.instanceMethod objectInit, Cond.code objectInit ⟨#[0xb1]⟩ 1 none, Cond.arrayClass .int, Cond.fieldLink RX0 9 "ChargePark" "phaseOf" "[I", Cond.fieldLink RX0 13 "ChargePark" "greatestOf" "[I", Cond.fieldLink RX0 16 "ChargePark" "needOf" "[I", Cond.fieldLink RX0 19 "ChargePark" "appetiteOf" "[I", Cond.fieldLink RX0 22 "ChargePark" "leavesAt" "[I", Cond.fieldLink RX0 25 "ChargePark" "wanted" "[I", Cond.fieldLink RX0 28 "ChargePark" "given" "[I", Cond.fieldLink RX0 31 "ChargePark" "turns" "[I"] [39, 42] (by decide +kernel) (by decide +kernel) w h).1
theorem wsL_law_in0_r1 : ∀ w ∈ wsL_law0_r1, w ∈ lw_tbl := (in_app wsL_law_in0_r1_0 (in_app wsL_law_in0_r1_1 wsL_law_in0_r1_2))
set_option maxRecDepth 20000 in
theorem wsL_law_in0_r2 : ∀ w ∈ wsL_law0_r2, w ∈ lw_tbl := fun w h => (goodIn_p wsL_law0_r2 [313, 402, 249, 253] (by decide +kernel) (by decide +kernel) w h).1
set_option maxRecDepth 20000 in
theorem wsL_law_in0_r3 : ∀ w ∈ wsL_law0_r3, w ∈ lw_tbl := fun w h => (goodIn_p wsL_law0_r3 [257, 227, 261, 231, 241, 224] (by decide +kernel) (by decide +kernel) w h).1
set_option maxRecDepth 20000 in
theorem wsL_law_in0_r4 : ∀ w ∈ wsL_law0_r4, w ∈ lw_tbl := fun w h => (goodIn_p wsL_law0_r4 [265, 269, 273, 277, 281, 285] (by decide +kernel) (by decide +kernel) w h).1
set_option maxRecDepth 20000 in
theorem wsL_law_in0_r5 : ∀ w ∈ wsL_law0_r5, w ∈ lw_tbl := fun w h => (goodIn_p wsL_law0_r5 [289, 220, 235, 238, 293, 297, 301] (by decide +kernel) (by decide +kernel) w h).1
set_option maxRecDepth 20000 in
theorem wsL_law_in0_r6 : ∀ w ∈ wsL_law0_r6, w ∈ lw_tbl := fun w h => (goodIn_p wsL_law0_r6 [305, 410, 414, 376, 99] (by decide +kernel) (by decide +kernel) w h).1
set_option maxRecDepth 20000 in
theorem wsL_law_in0_r7 : ∀ w ∈ wsL_law0_r7, w ∈ lw_tbl := fun w h => (goodIn_p wsL_law0_r7 [380, 384, 245, 170, 309, 394] (by decide +kernel) (by decide +kernel) w h).1
set_option maxRecDepth 20000 in
theorem wsL_law_in0_r8 : ∀ w ∈ wsL_law0_r8, w ∈ lw_tbl := fun w h => (goodIn_p wsL_law0_r8 [96, 327, 331, 335] (by decide +kernel) (by decide +kernel) w h).1
set_option maxRecDepth 20000 in
theorem wsL_law_in0_r9 : ∀ w ∈ wsL_law0_r9, w ∈ lw_tbl := fun w h => (goodIn_p wsL_law0_r9 [191, 195, 215, 339, 343] (by decide +kernel) (by decide +kernel) w h).1
set_option maxRecDepth 20000 in
theorem wsL_law_in0_r10 : ∀ w ∈ wsL_law0_r10, w ∈ lw_tbl := fun w h => (goodIn_p wsL_law0_r10 [348, 352, 317, 356, 360, 364] (by decide +kernel) (by decide +kernel) w h).1
set_option maxRecDepth 20000 in
theorem wsL_law_in0_r11_0 : ∀ w ∈ ([Cond.code yX0_current cX0_current 2 (some .int), Cond.methodLink RL 54 yX0_load, Cond.instanceMethod yX0_load, Cond.selects RX0 yX0_load yX0_load, Cond.code yX0_load cX0_load 2 (some .int), Cond.methodLink RL 97 yL_refuses, Cond.static yL_refuses] : List Cond), w ∈ lw_tbl := fun w h => (goodIn_p [Cond.code yX0_current cX0_current 2 (some .int), Cond.methodLink RL 54 yX0_load, Cond.instanceMethod yX0_load, Cond.selects RX0 yX0_load yX0_load, Cond.code yX0_load cX0_load 2 (some .int), Cond.methodLink RL 97 yL_refuses, Cond.static yL_refuses] [368, 372] (by decide +kernel) (by decide +kernel) w h).1
set_option maxRecDepth 100000 in
theorem wsL_law_in0_r11_1 : ∀ w ∈ ([Cond.code yL_refuses cL_refuses 15 (some .boolean)] : List Cond), w ∈ lw_tbl := fun w h => by
  rcases List.mem_singleton.mp h with rfl
  exact List.mem_of_getElem? (i := 390) rfl
set_option maxRecDepth 20000 in
theorem wsL_law_in0_r11_2 : ∀ w ∈ ([Cond.constant RL 82 (2147483647), Cond.methodLink RL 76 yX0_taken, Cond.instanceMethod yX0_taken, Cond.selects RX0 yX0_taken yX0_taken, Cond.code yX0_taken cX0_taken 1 (some .int), Cond.methodLink RL 101 yL_gives, Cond.static yL_gives, Cond.code yL_gives cL_gives 5 (some .boolean), Cond.methodLink RL 105 yL_loads, Cond.static yL_loads, Cond.code yL_loads cL_loads 5 (some .boolean), Cond.methodLink RL 114 yL_cars, Cond.static yL_cars] : List Cond), w ∈ lw_tbl := fun w h => (goodIn_p [Cond.constant RL 82 (2147483647), Cond.methodLink RL 76 yX0_taken, Cond.instanceMethod yX0_taken, Cond.selects RX0 yX0_taken yX0_taken, Cond.code yX0_taken cX0_taken 1 (some .int), Cond.methodLink RL 101 yL_gives, Cond.static yL_gives, Cond.code yL_gives cL_gives 5 (some .boolean), Cond.methodLink RL 105 yL_loads, Cond.static yL_loads, Cond.code yL_loads cL_loads 5 (some .boolean), Cond.methodLink RL 114 yL_cars, Cond.static yL_cars] [398, 417, 420] (by decide +kernel) (by decide +kernel) w h).1
set_option maxRecDepth 100000 in
theorem wsL_law_in0_r11_3 : ∀ w ∈ ([Cond.code yL_cars cL_cars 1 (some .boolean)] : List Cond), w ∈ lw_tbl := fun w h => by
  rcases List.mem_singleton.mp h with rfl
  exact List.mem_of_getElem? (i := 423) rfl
set_option maxRecDepth 20000 in
theorem wsL_law_in0_r11_4 : ∀ w ∈ ([Cond.methodLink RL 108 yX0_served, Cond.instanceMethod yX0_served] : List Cond), w ∈ lw_tbl := fun w h => (goodIn_p [Cond.methodLink RL 108 yX0_served, Cond.instanceMethod yX0_served] [] (by decide +kernel) (by decide +kernel) w h).1
theorem wsL_law_in0_r11 : ∀ w ∈ wsL_law0_r11, w ∈ lw_tbl := (in_app wsL_law_in0_r11_0 (in_app wsL_law_in0_r11_1 (in_app wsL_law_in0_r11_2 (in_app wsL_law_in0_r11_3 wsL_law_in0_r11_4))))
set_option maxRecDepth 20000 in
theorem wsL_law_in0_r12_0 : ∀ w ∈ ([Cond.selects RX0 yX0_served yX0_served, Cond.code yX0_served cX0_served 1 (some .int), Cond.methodLink RL 117 yL_ties, Cond.static yL_ties] : List Cond), w ∈ lw_tbl := fun w h => (goodIn_p [Cond.selects RX0 yX0_served yX0_served, Cond.code yX0_served cX0_served 1 (some .int), Cond.methodLink RL 117 yL_ties, Cond.static yL_ties] [427] (by decide +kernel) (by decide +kernel) w h).1
set_option maxRecDepth 100000 in
theorem wsL_law_in0_r12_1 : ∀ w ∈ ([Cond.code yL_ties cL_ties 2 (some .boolean)] : List Cond), w ∈ lw_tbl := fun w h => by
  rcases List.mem_singleton.mp h with rfl
  exact List.mem_of_getElem? (i := 430) rfl
theorem wsL_law_in0_r12 : ∀ w ∈ wsL_law0_r12, w ∈ lw_tbl := (in_app wsL_law_in0_r12_0 wsL_law_in0_r12_1)
set_option maxRecDepth 20000 in
theorem wsL_law_in0_wsX00 : ∀ w ∈ wsX00, w ∈ lw_tbl := fun w h => (goodIn_p wsX00 [] (by decide +kernel) (by decide +kernel) w h).1
theorem wsL_law_in0 : ∀ w ∈ wsL_law0, w ∈ lw_tbl := in_app (in_app (in_app wsL_law_in0_r1 (in_app wsL_law_in0_r2 (in_app wsL_law_in0_r3 (in_app wsL_law_in0_r4 (in_app wsL_law_in0_r5 (in_app wsL_law_in0_r6 (in_app wsL_law_in0_r7 (in_app wsL_law_in0_r8 (in_app wsL_law_in0_r9 (in_app wsL_law_in0_r10 (in_app wsL_law_in0_r11 wsL_law_in0_r12))))))))))) wsL_law_in0_wsX00) (fun _ h => absurd h List.not_mem_nil)
theorem wsL_law_x0 : ∀ w ∈ (vx_atS RX0 122 "java/lang/IllegalArgumentException" ["java/lang/RuntimeException", "java/lang/Exception"]).filter goodWord, w ∈ lw_tbl := by decide +kernel
theorem wsL_law_x1 : ∀ w ∈ (vx_atS RX0 62 "java/lang/IllegalStateException" ["java/lang/RuntimeException", "java/lang/Exception"]).filter goodWord, w ∈ lw_tbl := by decide +kernel
theorem wsL_law_x2 : ∀ w ∈ (vx_atS RX0 129 "java/lang/IndexOutOfBoundsException" ["java/lang/RuntimeException", "java/lang/Exception"]).filter goodWord, w ∈ lw_tbl := by decide +kernel
theorem wsL_law_in : ∀ w ∈ wsL_law, w ∈ lw_tbl := fun w h => (List.mem_append.mp h).elim (fun h => (List.mem_append.mp h).elim (fun h => (List.mem_append.mp h).elim (fun h => wsL_law_in0 w h) (fun h => wsL_law_x0 w h)) (fun h => wsL_law_x1 w h)) (fun h => wsL_law_x2 w h)
theorem inlX0 : ∀ w ∈ wsX00, w ∈ wsL_law := fun _ h => List.mem_append_left _ (List.mem_append_left _ (List.mem_append_left _ (List.mem_append_left _ (List.mem_append_right _ h))))
theorem inX0 : ∀ w ∈ wsX00, w ∈ lw_tbl := fun w h => wsL_law_in w (inlX0 w h)
theorem inX1 : ∀ w ∈ wsX10, w ∈ lw_tbl := by decide +kernel
theorem inJ9 : ∀ w ∈ wsJ90, w ∈ lw_tbl := by decide +kernel
theorem inJ0 : ∀ w ∈ wsJ00, w ∈ lw_tbl := by decide +kernel
