set_option maxRecDepth 100000 in
theorem hL_law_L_shares_c : GoodIn wsL_law [Cond.code yL_shares cL_shares 1 (some .boolean)] := gi_1 7 rfl (by decide +kernel)
set_option maxRecDepth 100000 in
theorem hL_law_L_shares_0 : GoodIn wsL_law wsL_shares_r1 := goodIn_r wsL_shares_r1 [0, 1, 2, 8, 3, 9, 10, 11, 12, 13, 14, 15, 16, 17, 18, 19, 20, 21, 22, 23, 24, 25, 26, 27] (by decide +kernel) (by decide +kernel)
set_option maxRecDepth 100000 in
theorem hL_law_L_shares_1 : GoodIn wsL_law wsL_shares_r2 := goodIn_r wsL_shares_r2 [28, 29, 30, 31, 32, 33, 34, 35, 36, 37, 38, 39, 40, 41, 42, 43, 44, 45, 46, 47, 48, 49, 50, 51] (by decide +kernel) (by decide +kernel)
set_option maxRecDepth 100000 in
theorem hL_law_L_shares_2 : GoodIn wsL_law wsL_shares_r3 := goodIn_r wsL_shares_r3 [52, 53, 54, 55, 56, 57, 58, 59, 60, 61, 62, 63, 64, 65, 66, 67, 68, 69, 70, 71, 72, 73, 74, 75] (by decide +kernel) (by decide +kernel)
set_option maxRecDepth 100000 in
theorem hL_law_L_shares_3 : GoodIn wsL_law wsL_shares_r4 := goodIn_r wsL_shares_r4 [76, 77, 78, 79, 80, 81, 82, 83, 84, 85, 86, 87, 88, 89, 90, 91, 92, 93, 94, 95, 96, 97, 98, 99] (by decide +kernel) (by decide +kernel)
set_option maxRecDepth 100000 in
theorem hL_law_L_shares_4 : GoodIn wsL_law wsL_shares_r5 := goodIn_r wsL_shares_r5 [100, 101, 102, 103, 104, 105, 106, 107, 108, 109, 110, 111, 112, 113, 114, 115, 116, 117, 118, 119, 120, 121, 122, 123] (by decide +kernel) (by decide +kernel)
set_option maxRecDepth 100000 in
theorem hL_law_L_shares_5 : GoodIn wsL_law wsL_shares_r6 := goodIn_r wsL_shares_r6 [124, 125, 126, 127, 128, 129, 130, 131, 132, 133, 134, 135, 136, 137, 138, 139, 140, 141, 142, 143, 144, 145, 146, 147] (by decide +kernel) (by decide +kernel)
set_option maxRecDepth 100000 in
theorem hL_law_L_shares_6 : GoodIn wsL_law wsL_shares_r7 := goodIn_r wsL_shares_r7 [148, 149, 150, 151, 152, 153, 154, 155, 156, 157, 158, 159, 160, 161, 162, 163, 164, 165, 166, 6, 167, 168, 169, 170] (by decide +kernel) (by decide +kernel)
set_option maxRecDepth 100000 in
theorem hL_law_L_shares_7 : GoodIn wsL_law wsL_shares_r8 := goodIn_r wsL_shares_r8 [171, 172, 173, 174, 175, 176, 177, 178, 179, 180, 181, 182, 183, 184, 185, 186, 187, 188, 189, 190, 191, 192, 193, 194] (by decide +kernel) (by decide +kernel)
set_option maxRecDepth 100000 in
theorem hL_law_L_shares_8 : GoodIn wsL_law wsL_shares_r9 := goodIn_r wsL_shares_r9 [195, 196, 197, 198, 199, 200, 201, 202, 203, 204, 205, 206, 207, 208, 209, 210, 211, 212, 213, 214, 215, 216, 217, 218] (by decide +kernel) (by decide +kernel)
set_option maxRecDepth 100000 in
theorem hL_law_L_shares_9 : GoodIn wsL_law wsL_shares_r10 := goodIn_r wsL_shares_r10 [219, 220, 221, 222, 223, 224, 225, 226, 227, 228, 229, 230, 231, 232, 233, 234, 235, 236, 237, 238, 239, 240, 241, 242] (by decide +kernel) (by decide +kernel)
set_option maxRecDepth 100000 in
theorem hL_law_L_shares_10_0 : GoodIn wsL_law ([Cond.selects RX0 yX0_load yX0_load, Cond.code yX0_load cX0_load 2 (some .int), Cond.methodLink RL 97 yL_refuses, Cond.static yL_refuses] : List Cond) := goodIn_r [Cond.selects RX0 yX0_load yX0_load, Cond.code yX0_load cX0_load 2 (some .int), Cond.methodLink RL 97 yL_refuses, Cond.static yL_refuses] [243, 244, 245, 246] (by decide +kernel) (by decide +kernel)
set_option maxRecDepth 100000 in
theorem hL_law_L_shares_10_1 : GoodIn wsL_law [Cond.code yL_refuses cL_refuses 15 (some .boolean)] := gi_1 247 rfl (by decide +kernel)
set_option maxRecDepth 100000 in
theorem hL_law_L_shares_10_2 : GoodIn wsL_law ([Cond.constant RL 82 (2147483647), Cond.methodLink RL 76 yX0_taken, Cond.instanceMethod yX0_taken, Cond.selects RX0 yX0_taken yX0_taken, Cond.code yX0_taken cX0_taken 1 (some .int), Cond.methodLink RL 101 yL_gives, Cond.static yL_gives, Cond.code yL_gives cL_gives 5 (some .boolean), Cond.methodLink RL 105 yL_loads, Cond.static yL_loads, Cond.code yL_loads cL_loads 5 (some .boolean)] : List Cond) := goodIn_r [Cond.constant RL 82 (2147483647), Cond.methodLink RL 76 yX0_taken, Cond.instanceMethod yX0_taken, Cond.selects RX0 yX0_taken yX0_taken, Cond.code yX0_taken cX0_taken 1 (some .int), Cond.methodLink RL 101 yL_gives, Cond.static yL_gives, Cond.code yL_gives cL_gives 5 (some .boolean), Cond.methodLink RL 105 yL_loads, Cond.static yL_loads, Cond.code yL_loads cL_loads 5 (some .boolean)] [248, 249, 250, 251, 252, 253, 254, 255, 256, 257, 258] (by decide +kernel) (by decide +kernel)
theorem hL_law_L_shares_10 : GoodIn wsL_law wsL_shares_r11 := (goodIn_app hL_law_L_shares_10_0 (goodIn_app hL_law_L_shares_10_1 hL_law_L_shares_10_2))
set_option maxRecDepth 100000 in
theorem hL_law_L_shares_x : GoodIn wsL_law wsX00 := goodIn_r wsX00 [269, 270, 271, 272, 273, 274, 275, 276, 277, 278, 279, 280, 281, 282, 283, 284] (by decide +kernel) (by decide +kernel)
set_option maxRecDepth 20000 in
theorem ggL_law_L_shares : GoodIn wsL_law wsL_shares := goodIn_ca (goodIn_ca (goodIn_ca ((gi_c hL_law_L_shares_c (goodIn_app (goodIn_app hL_law_L_shares_0 (goodIn_app hL_law_L_shares_1 (goodIn_app hL_law_L_shares_2 (goodIn_app hL_law_L_shares_3 (goodIn_app hL_law_L_shares_4 (goodIn_app hL_law_L_shares_5 (goodIn_app hL_law_L_shares_6 (goodIn_app hL_law_L_shares_7 (goodIn_app hL_law_L_shares_8 (goodIn_app hL_law_L_shares_9 hL_law_L_shares_10)))))))))) hL_law_L_shares_x))) (goodIn_sub (fun _ h => List.mem_append_left _ (List.mem_append_left _ (List.mem_append_right _ h))) (by decide +kernel))) (goodIn_sub (fun _ h => List.mem_append_left _ (List.mem_append_right _ h)) (by decide +kernel))) (goodIn_sub (fun _ h => List.mem_append_right _ h) (by decide +kernel))
set_option maxRecDepth 20000 in
theorem gL_law_L_shares : GoodIn wsL_law (va_wsS RL 111 yL_shares wsL_shares) := goodIn_app (goodIn_of _ (by decide +kernel)) ggL_law_L_shares
set_option maxRecDepth 100000 in
theorem hL_law_L_cars_c : GoodIn wsL_law [Cond.code yL_cars cL_cars 1 (some .boolean)] := gi_1 261 rfl (by decide +kernel)
set_option maxRecDepth 100000 in
theorem hL_law_L_cars_0 : GoodIn wsL_law wsL_cars_r1 := goodIn_r wsL_cars_r1 [0, 1, 2, 9, 10, 11, 12, 13, 14, 15, 16, 17, 18, 19, 20, 21, 22, 23, 24, 25, 26, 27, 172, 173] (by decide +kernel) (by decide +kernel)
set_option maxRecDepth 100000 in
theorem hL_law_L_cars_1 : GoodIn wsL_law wsL_cars_r2 := goodIn_r wsL_cars_r2 [174, 175, 176, 177, 32, 136, 137, 138, 139, 140, 154, 155, 156, 190, 191, 192, 193, 57, 194, 195, 196, 197, 198, 199] (by decide +kernel) (by decide +kernel)
set_option maxRecDepth 100000 in
theorem hL_law_L_cars_2 : GoodIn wsL_law wsL_cars_r3 := goodIn_r wsL_cars_r3 [200, 201, 202, 203, 97, 98, 99, 100, 65, 66, 67, 68, 49, 50, 51, 52, 58, 59, 60, 61, 101, 102, 103, 104] (by decide +kernel) (by decide +kernel)
set_option maxRecDepth 100000 in
theorem hL_law_L_cars_3 : GoodIn wsL_law wsL_cars_r4 := goodIn_r wsL_cars_r4 [105, 106, 107, 62, 63, 64, 233, 234, 235, 236, 45, 46, 47, 48, 53, 54, 55, 56, 128, 129, 130, 131, 149, 150] (by decide +kernel) (by decide +kernel)
set_option maxRecDepth 100000 in
theorem hL_law_L_cars_4 : GoodIn wsL_law wsL_cars_r5 := goodIn_r wsL_cars_r5 [151, 152, 153, 37, 38, 39, 40, 41, 42, 43, 44, 69, 70, 71, 72, 73, 74, 75, 76, 77, 78, 79, 80, 81] (by decide +kernel) (by decide +kernel)
set_option maxRecDepth 100000 in
theorem hL_law_L_cars_5 : GoodIn wsL_law wsL_cars_r6 := goodIn_r wsL_cars_r6 [82, 83, 84, 85, 86, 87, 88, 89, 90, 91, 92, 93, 94, 95, 96, 108, 109, 110, 111, 112, 113, 114, 115, 116] (by decide +kernel) (by decide +kernel)
set_option maxRecDepth 100000 in
theorem hL_law_L_cars_6 : GoodIn wsL_law wsL_cars_r7 := goodIn_r wsL_cars_r7 [117, 118, 119, 120, 121, 122, 123, 157, 158, 159, 160, 221, 222, 223, 224, 225, 226, 227, 228, 229, 230, 231, 232, 209] (by decide +kernel) (by decide +kernel)
set_option maxRecDepth 100000 in
theorem hL_law_L_cars_7 : GoodIn wsL_law wsL_cars_r8 := goodIn_r wsL_cars_r8 [210, 211, 212, 241, 242, 243, 244, 213, 214, 215, 216, 33, 34, 35, 36, 217, 218, 219, 220, 237, 238, 239, 240, 204] (by decide +kernel) (by decide +kernel)
set_option maxRecDepth 100000 in
theorem hL_law_L_cars_8_0 : GoodIn wsL_law ([Cond.instanceMethod yX0_takeOut, Cond.selects RX0 yX0_takeOut yX0_takeOut, Cond.code yX0_takeOut cX0_takeOut 3 (some .int), Cond.fieldLink RX0 84 "ChargePark" "servedCars" "I", Cond.methodLink RL 108 yX0_served, Cond.instanceMethod yX0_served, Cond.selects RX0 yX0_served yX0_served, Cond.code yX0_served cX0_served 1 (some .int), Cond.methodLink RL 76 yX0_taken, Cond.instanceMethod yX0_taken, Cond.selects RX0 yX0_taken yX0_taken, Cond.code yX0_taken cX0_taken 1 (some .int), Cond.methodLink RL 97 yL_refuses, Cond.static yL_refuses, Cond.initialized RL] : List Cond) := goodIn_r [Cond.instanceMethod yX0_takeOut, Cond.selects RX0 yX0_takeOut yX0_takeOut, Cond.code yX0_takeOut cX0_takeOut 3 (some .int), Cond.fieldLink RX0 84 "ChargePark" "servedCars" "I", Cond.methodLink RL 108 yX0_served, Cond.instanceMethod yX0_served, Cond.selects RX0 yX0_served yX0_served, Cond.code yX0_served cX0_served 1 (some .int), Cond.methodLink RL 76 yX0_taken, Cond.instanceMethod yX0_taken, Cond.selects RX0 yX0_taken yX0_taken, Cond.code yX0_taken cX0_taken 1 (some .int), Cond.methodLink RL 97 yL_refuses, Cond.static yL_refuses, Cond.initialized RL] [205, 206, 207, 208, 262, 263, 264, 265, 249, 250, 251, 252, 245, 246, 6] (by decide +kernel) (by decide +kernel)
set_option maxRecDepth 100000 in
theorem hL_law_L_cars_8_1 : GoodIn wsL_law [Cond.code yL_refuses cL_refuses 15 (some .boolean)] := gi_1 247 rfl (by decide +kernel)
set_option maxRecDepth 100000 in
theorem hL_law_L_cars_8_2 : GoodIn wsL_law ([Cond.constant RL 82 (2147483647), Cond.constant RL 65 (-70012), Cond.constant RL 62 (-70011), Cond.methodLink RL 69 yX0_points, Cond.instanceMethod yX0_points, Cond.selects RX0 yX0_points yX0_points, Cond.code yX0_points cX0_points 1 (some .int), Cond.methodLink RL 73 yX0_time] : List Cond) := goodIn_r [Cond.constant RL 82 (2147483647), Cond.constant RL 65 (-70012), Cond.constant RL 62 (-70011), Cond.methodLink RL 69 yX0_points, Cond.instanceMethod yX0_points, Cond.selects RX0 yX0_points yX0_points, Cond.code yX0_points cX0_points 1 (some .int), Cond.methodLink RL 73 yX0_time] [248, 171, 8, 28, 29, 30, 31, 161] (by decide +kernel) (by decide +kernel)
theorem hL_law_L_cars_8 : GoodIn wsL_law wsL_cars_r9 := (goodIn_app hL_law_L_cars_8_0 (goodIn_app hL_law_L_cars_8_1 hL_law_L_cars_8_2))
set_option maxRecDepth 100000 in
theorem hL_law_L_cars_9 : GoodIn wsL_law wsL_cars_r10 := goodIn_r wsL_cars_r10 [162, 163, 164, 165, 166, 167, 168, 169, 170, 3, 178, 179, 180, 181, 182, 183, 184, 185, 186, 187, 188, 189, 132, 133] (by decide +kernel) (by decide +kernel)
set_option maxRecDepth 100000 in
theorem hL_law_L_cars_10 : GoodIn wsL_law wsL_cars_r11 := goodIn_r wsL_cars_r11 [134, 135, 141, 142, 143, 144, 145, 146, 147, 148] (by decide +kernel) (by decide +kernel)
set_option maxRecDepth 100000 in
theorem hL_law_L_cars_x : GoodIn wsL_law wsX00 := goodIn_r wsX00 [269, 270, 271, 272, 273, 274, 275, 276, 277, 278, 279, 280, 281, 282, 283, 284] (by decide +kernel) (by decide +kernel)
set_option maxRecDepth 20000 in
theorem ggL_law_L_cars : GoodIn wsL_law wsL_cars := goodIn_ca (goodIn_ca (goodIn_ca ((gi_c hL_law_L_cars_c (goodIn_app (goodIn_app hL_law_L_cars_0 (goodIn_app hL_law_L_cars_1 (goodIn_app hL_law_L_cars_2 (goodIn_app hL_law_L_cars_3 (goodIn_app hL_law_L_cars_4 (goodIn_app hL_law_L_cars_5 (goodIn_app hL_law_L_cars_6 (goodIn_app hL_law_L_cars_7 (goodIn_app hL_law_L_cars_8 (goodIn_app hL_law_L_cars_9 hL_law_L_cars_10)))))))))) hL_law_L_cars_x))) (goodIn_sub (fun _ h => List.mem_append_left _ (List.mem_append_right _ h)) (by decide +kernel))) (goodIn_sub (fun _ h => List.mem_append_left _ (List.mem_append_left _ (List.mem_append_right _ h))) (by decide +kernel))) (goodIn_sub (fun _ h => List.mem_append_right _ h) (by decide +kernel))
set_option maxRecDepth 20000 in
theorem gL_law_L_cars : GoodIn wsL_law (va_wsS RL 114 yL_cars wsL_cars) := goodIn_app (goodIn_of _ (by decide +kernel)) ggL_law_L_cars
set_option maxRecDepth 100000 in
theorem hL_law_L_ties_c : GoodIn wsL_law [Cond.code yL_ties cL_ties 2 (some .boolean)] := gi_1 268 rfl (by decide +kernel)
set_option maxRecDepth 100000 in
theorem hL_law_L_ties_0 : GoodIn wsL_law wsL_ties_r1 := goodIn_r wsL_ties_r1 [0, 1, 2, 3, 9, 10, 11, 12, 13, 14, 15, 16, 17, 18, 19, 20, 21, 22, 23, 24, 25, 26, 27, 165] (by decide +kernel) (by decide +kernel)
set_option maxRecDepth 100000 in
theorem hL_law_L_ties_1 : GoodIn wsL_law wsL_ties_r2 := goodIn_r wsL_ties_r2 [166, 6, 167, 168, 169, 170, 8, 171, 172, 173, 174, 175, 176, 177, 32, 136, 137, 138, 139, 140, 154, 155, 156, 178] (by decide +kernel) (by decide +kernel)
set_option maxRecDepth 100000 in
theorem hL_law_L_ties_2 : GoodIn wsL_law wsL_ties_r3 := goodIn_r wsL_ties_r3 [179, 180, 181, 182, 183, 184, 185, 186, 187, 188, 189, 190, 191, 192, 193, 57, 194, 195, 196, 197, 198, 199, 200, 201] (by decide +kernel) (by decide +kernel)
set_option maxRecDepth 100000 in
theorem hL_law_L_ties_3 : GoodIn wsL_law wsL_ties_r4 := goodIn_r wsL_ties_r4 [202, 203, 97, 98, 99, 100, 65, 66, 67, 68, 49, 50, 51, 52, 58, 59, 60, 61, 101, 102, 103, 104, 105, 106] (by decide +kernel) (by decide +kernel)
set_option maxRecDepth 100000 in
theorem hL_law_L_ties_4 : GoodIn wsL_law wsL_ties_r5 := goodIn_r wsL_ties_r5 [107, 62, 63, 64, 204, 205, 206, 207, 208, 209, 210, 211, 212, 213, 214, 215, 216, 217, 218, 219, 220, 149, 150, 151] (by decide +kernel) (by decide +kernel)
set_option maxRecDepth 100000 in
theorem hL_law_L_ties_5 : GoodIn wsL_law wsL_ties_r6 := goodIn_r wsL_ties_r6 [152, 153, 37, 38, 39, 40, 41, 42, 43, 44, 45, 46, 47, 48, 53, 54, 55, 56, 69, 70, 71, 72, 73, 74] (by decide +kernel) (by decide +kernel)
set_option maxRecDepth 100000 in
theorem hL_law_L_ties_6 : GoodIn wsL_law wsL_ties_r7 := goodIn_r wsL_ties_r7 [75, 76, 77, 78, 79, 80, 81, 82, 83, 84, 85, 86, 87, 88, 89, 90, 91, 92, 93, 94, 95, 96, 108, 109] (by decide +kernel) (by decide +kernel)
set_option maxRecDepth 100000 in
theorem hL_law_L_ties_7 : GoodIn wsL_law wsL_ties_r8 := goodIn_r wsL_ties_r8 [110, 111, 112, 113, 114, 115, 116, 117, 118, 119, 120, 121, 122, 123, 157, 158, 159, 160, 221, 222, 223, 224, 225, 226] (by decide +kernel) (by decide +kernel)
set_option maxRecDepth 100000 in
theorem hL_law_L_ties_8 : GoodIn wsL_law wsL_ties_r9 := goodIn_r wsL_ties_r9 [227, 228, 229, 230, 231, 232, 233, 234, 235, 236, 237, 238, 239, 240, 241, 242, 243, 244, 132, 133, 134, 135, 141, 142] (by decide +kernel) (by decide +kernel)
set_option maxRecDepth 100000 in
theorem hL_law_L_ties_9_0 : GoodIn wsL_law ([Cond.selects RX0 yX0_givenAtAllPhases yX0_givenAtAllPhases, Cond.code yX0_givenAtAllPhases cX0_givenAtAllPhases 3 (some .int), Cond.methodLink RX0 115 yX0_usedAtLevel, Cond.instanceMethod yX0_usedAtLevel, Cond.selects RX0 yX0_usedAtLevel yX0_usedAtLevel, Cond.code yX0_usedAtLevel cX0_usedAtLevel 5 (some .int), Cond.methodLink RL 101 yL_gives, Cond.static yL_gives, Cond.code yL_gives cL_gives 5 (some .boolean), Cond.methodLink RL 79 yX0_held, Cond.instanceMethod yX0_held, Cond.selects RX0 yX0_held yX0_held, Cond.code yX0_held cX0_held 3 (some .int), Cond.methodLink RL 105 yL_loads, Cond.static yL_loads, Cond.code yL_loads cL_loads 5 (some .boolean), Cond.methodLink RL 89 yX0_imbalance, Cond.instanceMethod yX0_imbalance, Cond.selects RX0 yX0_imbalance yX0_imbalance, Cond.code yX0_imbalance cX0_imbalance 1 (some .int), Cond.methodLink RL 97 yL_refuses, Cond.static yL_refuses] : List Cond) := goodIn_r [Cond.selects RX0 yX0_givenAtAllPhases yX0_givenAtAllPhases, Cond.code yX0_givenAtAllPhases cX0_givenAtAllPhases 3 (some .int), Cond.methodLink RX0 115 yX0_usedAtLevel, Cond.instanceMethod yX0_usedAtLevel, Cond.selects RX0 yX0_usedAtLevel yX0_usedAtLevel, Cond.code yX0_usedAtLevel cX0_usedAtLevel 5 (some .int), Cond.methodLink RL 101 yL_gives, Cond.static yL_gives, Cond.code yL_gives cL_gives 5 (some .boolean), Cond.methodLink RL 79 yX0_held, Cond.instanceMethod yX0_held, Cond.selects RX0 yX0_held yX0_held, Cond.code yX0_held cX0_held 3 (some .int), Cond.methodLink RL 105 yL_loads, Cond.static yL_loads, Cond.code yL_loads cL_loads 5 (some .boolean), Cond.methodLink RL 89 yX0_imbalance, Cond.instanceMethod yX0_imbalance, Cond.selects RX0 yX0_imbalance yX0_imbalance, Cond.code yX0_imbalance cX0_imbalance 1 (some .int), Cond.methodLink RL 97 yL_refuses, Cond.static yL_refuses] [143, 144, 145, 146, 147, 148, 253, 254, 255, 33, 34, 35, 36, 256, 257, 258, 124, 125, 126, 127, 245, 246] (by decide +kernel) (by decide +kernel)
set_option maxRecDepth 100000 in
theorem hL_law_L_ties_9_1 : GoodIn wsL_law [Cond.code yL_refuses cL_refuses 15 (some .boolean)] := gi_1 247 rfl (by decide +kernel)
set_option maxRecDepth 100000 in
theorem hL_law_L_ties_9_2 : GoodIn wsL_law ([Cond.constant RL 82 (2147483647)] : List Cond) := goodIn_r [Cond.constant RL 82 (2147483647)] [248] (by decide +kernel) (by decide +kernel)
theorem hL_law_L_ties_9 : GoodIn wsL_law wsL_ties_r10 := (goodIn_app hL_law_L_ties_9_0 (goodIn_app hL_law_L_ties_9_1 hL_law_L_ties_9_2))
set_option maxRecDepth 100000 in
theorem hL_law_L_ties_10 : GoodIn wsL_law wsL_ties_r11 := goodIn_r wsL_ties_r11 [28, 29, 30, 31, 161, 162, 163, 164, 249, 250, 251, 252] (by decide +kernel) (by decide +kernel)
set_option maxRecDepth 100000 in
theorem hL_law_L_ties_x : GoodIn wsL_law wsX00 := goodIn_r wsX00 [269, 270, 271, 272, 273, 274, 275, 276, 277, 278, 279, 280, 281, 282, 283, 284] (by decide +kernel) (by decide +kernel)
set_option maxRecDepth 20000 in
theorem ggL_law_L_ties : GoodIn wsL_law wsL_ties := goodIn_ca (goodIn_ca (goodIn_ca ((gi_c hL_law_L_ties_c (goodIn_app (goodIn_app hL_law_L_ties_0 (goodIn_app hL_law_L_ties_1 (goodIn_app hL_law_L_ties_2 (goodIn_app hL_law_L_ties_3 (goodIn_app hL_law_L_ties_4 (goodIn_app hL_law_L_ties_5 (goodIn_app hL_law_L_ties_6 (goodIn_app hL_law_L_ties_7 (goodIn_app hL_law_L_ties_8 (goodIn_app hL_law_L_ties_9 hL_law_L_ties_10)))))))))) hL_law_L_ties_x))) (goodIn_sub (fun _ h => List.mem_append_left _ (List.mem_append_right _ h)) (by decide +kernel))) (goodIn_sub (fun _ h => List.mem_append_left _ (List.mem_append_left _ (List.mem_append_right _ h))) (by decide +kernel))) (goodIn_sub (fun _ h => List.mem_append_right _ h) (by decide +kernel))
set_option maxRecDepth 20000 in
theorem gL_law_L_ties : GoodIn wsL_law (va_wsS RL 117 yL_ties wsL_ties) := goodIn_app (goodIn_of _ (by decide +kernel)) ggL_law_L_ties
set_option maxRecDepth 20000 in
theorem ggL_law_X0_init : GoodIn wsL_law wsX0_init := goodIn_r _ [11, 12, 13, 14, 15, 16, 17, 18, 19, 20, 21, 22, 23, 24, 25, 26, 27, 269, 270, 271, 272, 273, 274, 275, 276, 277, 278, 279, 280, 281, 282, 283, 284] (by decide +kernel) (by decide +kernel)
set_option maxRecDepth 20000 in
theorem gL_law_X0_init : GoodIn wsL_law (wsX0_init) := ggL_law_X0_init
set_option maxRecDepth 20000 in
theorem ggL_law_X0_point : GoodIn wsL_law wsX0_point := goodIn_ca (goodIn_ca (goodIn_r _ [175, 176, 177, 32, 16, 17, 18, 136, 137, 2, 138, 139, 140, 154, 155, 156, 269, 270, 271, 272, 273, 274, 275, 276, 277, 278, 279, 280, 281, 282, 283, 284] (by decide +kernel) (by decide +kernel)) (goodIn_sub (fun _ h => List.mem_append_left _ (List.mem_append_right _ h)) (by decide +kernel))) (goodIn_sub (fun _ h => List.mem_append_left _ (List.mem_append_left _ (List.mem_append_right _ h))) (by decide +kernel))
set_option maxRecDepth 20000 in
theorem gL_law_X0_point : GoodIn wsL_law (wsV RL 7 RX0 yX0_point wsX0_point) := goodIn_app (goodIn_of _ (by decide +kernel)) ggL_law_X0_point
set_option maxRecDepth 20000 in
theorem ggL_law_X0_points : GoodIn wsL_law wsX0_points := goodIn_r _ [31, 32, 269, 270, 271, 272, 273, 274, 275, 276, 277, 278, 279, 280, 281, 282, 283, 284] (by decide +kernel) (by decide +kernel)
set_option maxRecDepth 20000 in
theorem gL_law_X0_points : GoodIn wsL_law (wsV RL 69 RX0 yX0_points wsX0_points) := goodIn_app (goodIn_of _ (by decide +kernel)) ggL_law_X0_points
set_option maxRecDepth 20000 in
theorem ggL_law_X0_need : GoodIn wsL_law wsX0_need := goodIn_ca (goodIn_r _ [224, 18, 194, 195, 196, 2, 197, 198, 199, 32, 269, 270, 271, 272, 273, 274, 275, 276, 277, 278, 279, 280, 281, 282, 283, 284] (by decide +kernel) (by decide +kernel)) (goodIn_sub (fun _ h => List.mem_append_right _ h) (by decide +kernel))
set_option maxRecDepth 20000 in
theorem gL_law_X0_need : GoodIn wsL_law (wsV RL 39 RX0 yX0_need wsX0_need) := goodIn_app (goodIn_of _ (by decide +kernel)) ggL_law_X0_need
set_option maxRecDepth 20000 in
theorem ggL_law_L_act : GoodIn wsL_law wsL_act := goodIn_ca (goodIn_ca (goodIn_ca (goodIn_r _ [167, 168, 169, 170, 8, 171, 3, 172, 173, 174, 2, 175, 176, 177, 32, 16, 17, 18, 136, 137, 138, 139, 140, 154, 155, 156, 178, 179, 180, 181, 25, 182, 183, 184, 185, 26, 186, 187, 188, 189, 27, 190, 191, 192, 193, 19, 20, 57, 194, 195, 196, 197, 198, 199, 200, 201, 202, 203, 97, 98, 99, 100, 65, 66, 67, 68, 49, 50, 51, 52, 58, 59, 60, 61, 101, 102, 103, 104, 105, 106, 107, 62, 63, 64, 204, 205, 206, 207, 208, 209, 210, 211, 212, 213, 214, 215, 216, 217, 218, 219, 220, 149, 150, 151, 152, 153, 37, 38, 39, 40, 41, 42, 43, 44, 22, 21, 24, 45, 46, 47, 48, 53, 54, 55, 56, 69, 70, 71, 72, 73, 74, 75, 76, 77, 78, 79, 80, 81, 82, 83, 84, 85, 86, 87, 88, 89, 90, 91, 92, 23, 93, 94, 95, 96, 108, 109, 110, 111, 112, 113, 114, 115, 116, 117, 118, 119, 120, 121, 122, 123, 157, 158, 159, 160, 221, 222, 223, 224, 225, 226, 227, 228, 229, 230, 231, 232, 233, 234, 235, 236, 237, 238, 239, 240, 241, 242, 243, 244, 132, 133, 134, 135, 141, 142, 143, 144, 145, 146, 147, 148, 269, 270, 271, 272, 273, 274, 275, 276, 277, 278, 279, 280, 281, 282, 283, 284] (by decide +kernel) (by decide +kernel)) (goodIn_sub (fun _ h => List.mem_append_left _ (List.mem_append_right _ h)) (by decide +kernel))) (goodIn_sub (fun _ h => List.mem_append_left _ (List.mem_append_left _ (List.mem_append_right _ h))) (by decide +kernel))) (goodIn_sub (fun _ h => List.mem_append_right _ h) (by decide +kernel))
set_option maxRecDepth 20000 in
theorem gL_law_L_act : GoodIn wsL_law (va_wsS RL 83 yL_act wsL_act) := goodIn_app (goodIn_of _ (by decide +kernel)) ggL_law_L_act
set_option maxRecDepth 20000 in
theorem ggL_law_X0_plugIn : GoodIn wsL_law wsX0_plugIn := goodIn_ca (goodIn_ca (goodIn_ca (goodIn_r _ [193, 176, 177, 18, 19, 20, 57, 194, 195, 196, 2, 197, 198, 199, 32, 154, 155, 156, 139, 140, 200, 201, 202, 203, 97, 98, 99, 100, 65, 66, 67, 68, 17, 49, 50, 51, 52, 58, 59, 60, 61, 16, 101, 102, 103, 104, 105, 106, 107, 62, 63, 64, 269, 270, 271, 272, 273, 274, 275, 276, 277, 278, 279, 280, 281, 282, 283, 284] (by decide +kernel) (by decide +kernel)) (goodIn_sub (fun _ h => List.mem_append_left _ (List.mem_append_right _ h)) (by decide +kernel))) (goodIn_sub (fun _ h => List.mem_append_right _ h) (by decide +kernel))) (goodIn_sub (fun _ h => List.mem_append_left _ (List.mem_append_left _ (List.mem_append_right _ h))) (by decide +kernel))
set_option maxRecDepth 20000 in
theorem gL_law_X0_plugIn : GoodIn wsL_law (wsV RL 23 RX0 yX0_plugIn wsX0_plugIn) := goodIn_app (goodIn_of _ (by decide +kernel)) ggL_law_X0_plugIn
set_option maxRecDepth 100000 in
theorem hL_law_L_refuses_c : GoodIn wsL_law [Cond.code yL_refuses cL_refuses 15 (some .boolean)] := gi_1 247 rfl (by decide +kernel)
set_option maxRecDepth 100000 in
theorem hL_law_L_refuses_0 : GoodIn wsL_law wsL_refuses_r1 := goodIn_r wsL_refuses_r1 [248, 171, 8, 28, 29, 30, 2, 31, 32, 161, 162, 163, 164, 57, 249, 250, 251, 252, 153, 33, 34, 35, 36, 22] (by decide +kernel) (by decide +kernel)
set_option maxRecDepth 100000 in
theorem hL_law_L_refuses_1 : GoodIn wsL_law wsL_refuses_r2 := goodIn_r wsL_refuses_r2 [21, 37, 38, 39, 40, 27, 41, 42, 43, 44, 24, 45, 46, 47, 48, 18, 49, 50, 51, 52, 53, 54, 55, 56] (by decide +kernel) (by decide +kernel)
set_option maxRecDepth 100000 in
theorem hL_law_L_refuses_2 : GoodIn wsL_law wsL_refuses_r3 := goodIn_r wsL_refuses_r3 [20, 58, 59, 60, 61, 16, 62, 63, 64, 65, 66, 67, 68, 17, 19, 69, 70, 71, 72, 73, 74, 75, 76, 77] (by decide +kernel) (by decide +kernel)
set_option maxRecDepth 100000 in
theorem hL_law_L_refuses_3 : GoodIn wsL_law wsL_refuses_r4 := goodIn_r wsL_refuses_r4 [78, 79, 80, 25, 81, 82, 83, 84, 85, 86, 87, 88, 89, 90, 91, 92, 23, 93, 94, 95, 96, 97, 98, 99] (by decide +kernel) (by decide +kernel)
set_option maxRecDepth 100000 in
theorem hL_law_L_refuses_4 : GoodIn wsL_law wsL_refuses_r5 := goodIn_r wsL_refuses_r5 [100, 101, 102, 103, 104, 105, 106, 107, 108, 109, 110, 111, 26, 112, 113, 114, 115, 116, 117, 118, 119, 120, 121, 122] (by decide +kernel) (by decide +kernel)
set_option maxRecDepth 100000 in
theorem hL_law_L_refuses_5 : GoodIn wsL_law wsL_refuses_r6 := goodIn_r wsL_refuses_r6 [123, 165, 166, 6, 167, 168, 169, 170, 3, 172, 173, 174, 175, 176, 177, 136, 137, 138, 139, 140, 154, 155, 156, 178] (by decide +kernel) (by decide +kernel)
set_option maxRecDepth 100000 in
theorem hL_law_L_refuses_6 : GoodIn wsL_law wsL_refuses_r7 := goodIn_r wsL_refuses_r7 [179, 180, 181, 182, 183, 184, 185, 186, 187, 188, 189, 190, 191, 192, 193, 194, 195, 196, 197, 198, 199, 200, 201, 202] (by decide +kernel) (by decide +kernel)
set_option maxRecDepth 100000 in
theorem hL_law_L_refuses_7 : GoodIn wsL_law wsL_refuses_r8 := goodIn_r wsL_refuses_r8 [203, 204, 205, 206, 207, 208, 209, 210, 211, 212, 213, 214, 215, 216, 217, 218, 219, 220, 149, 150, 151, 152, 157, 158] (by decide +kernel) (by decide +kernel)
set_option maxRecDepth 100000 in
theorem hL_law_L_refuses_8 : GoodIn wsL_law wsL_refuses_r9 := goodIn_r wsL_refuses_r9 [159, 160, 221, 222, 223, 224, 225, 226, 227, 228, 229, 230, 231, 232, 233, 234, 235, 236, 237, 238, 239, 240, 241, 242] (by decide +kernel) (by decide +kernel)
set_option maxRecDepth 100000 in
theorem hL_law_L_refuses_9 : GoodIn wsL_law wsL_refuses_r10 := goodIn_r wsL_refuses_r10 [243, 244, 132, 133, 134, 135, 141, 142, 143, 144, 145, 146, 147, 148] (by decide +kernel) (by decide +kernel)
set_option maxRecDepth 100000 in
theorem hL_law_L_refuses_x : GoodIn wsL_law wsX00 := goodIn_r wsX00 [269, 270, 271, 272, 273, 274, 275, 276, 277, 278, 279, 280, 281, 282, 283, 284] (by decide +kernel) (by decide +kernel)
set_option maxRecDepth 20000 in
theorem ggL_law_L_refuses : GoodIn wsL_law wsL_refuses := goodIn_ca (goodIn_ca (goodIn_ca ((gi_c hL_law_L_refuses_c (goodIn_app (goodIn_app hL_law_L_refuses_0 (goodIn_app hL_law_L_refuses_1 (goodIn_app hL_law_L_refuses_2 (goodIn_app hL_law_L_refuses_3 (goodIn_app hL_law_L_refuses_4 (goodIn_app hL_law_L_refuses_5 (goodIn_app hL_law_L_refuses_6 (goodIn_app hL_law_L_refuses_7 (goodIn_app hL_law_L_refuses_8 hL_law_L_refuses_9))))))))) hL_law_L_refuses_x))) (goodIn_sub (fun _ h => List.mem_append_left _ (List.mem_append_right _ h)) (by decide +kernel))) (goodIn_sub (fun _ h => List.mem_append_left _ (List.mem_append_left _ (List.mem_append_right _ h))) (by decide +kernel))) (goodIn_sub (fun _ h => List.mem_append_right _ h) (by decide +kernel))
set_option maxRecDepth 20000 in
theorem gL_law_L_refuses : GoodIn wsL_law (va_wsS RL 97 yL_refuses wsL_refuses) := goodIn_app (goodIn_of _ (by decide +kernel)) ggL_law_L_refuses
set_option maxRecDepth 20000 in
theorem ggL_law_X0_step : GoodIn wsL_law wsX0_step := goodIn_ca (goodIn_r _ [152, 153, 57, 154, 155, 2, 156, 139, 140, 37, 38, 39, 40, 27, 41, 42, 43, 44, 32, 22, 21, 24, 45, 46, 47, 48, 18, 49, 50, 51, 52, 53, 54, 55, 56, 20, 58, 59, 60, 61, 16, 62, 63, 64, 65, 66, 67, 68, 17, 19, 69, 70, 71, 72, 73, 74, 75, 76, 77, 78, 79, 80, 25, 81, 82, 83, 84, 85, 86, 87, 88, 89, 90, 91, 92, 23, 93, 94, 95, 96, 97, 98, 99, 100, 101, 102, 103, 104, 105, 106, 107, 108, 109, 110, 111, 26, 112, 113, 114, 115, 116, 117, 118, 119, 120, 121, 122, 123, 157, 158, 159, 160, 269, 270, 271, 272, 273, 274, 275, 276, 277, 278, 279, 280, 281, 282, 283, 284] (by decide +kernel) (by decide +kernel)) (goodIn_sub (fun _ h => List.mem_append_left _ (List.mem_append_left _ (List.mem_append_right _ h))) (by decide +kernel))
set_option maxRecDepth 20000 in
theorem gL_law_X0_step : GoodIn wsL_law (wsV RL 36 RX0 yX0_step wsX0_step) := goodIn_app (goodIn_of _ (by decide +kernel)) ggL_law_X0_step
theorem dL_law_0 : decode cL_law 0 = .ok (.invokestatic 111, 3) := by decide +kernel
theorem dL_law_3 : decode cL_law 3 = .ok (.ifCond .eq 15, 3) := by decide +kernel
theorem dL_law_6 : decode cL_law 6 = .ok (.invokestatic 114, 3) := by decide +kernel
theorem dL_law_9 : decode cL_law 9 = .ok (.ifCond .eq 9, 3) := by decide +kernel
theorem dL_law_12 : decode cL_law 12 = .ok (.invokestatic 117, 3) := by decide +kernel
theorem dL_law_15 : decode cL_law 15 = .ok (.ifCond .ne 5, 3) := by decide +kernel
theorem dL_law_18 : decode cL_law 18 = .ok (.iconst 0, 1) := by decide +kernel
theorem dL_law_19 : decode cL_law 19 = .ok (.ireturn, 1) := by decide +kernel
theorem dL_law_20 : decode cL_law 20 = .ok (.new 8, 3) := by decide +kernel
theorem dL_law_23 : decode cL_law 23 = .ok (.dup, 1) := by decide +kernel
theorem dL_law_24 : decode cL_law 24 = .ok (.invokespecial 92, 3) := by decide +kernel
theorem dL_law_27 : decode cL_law 27 = .ok (.astore_n 1, 1) := by decide +kernel
theorem dL_law_28 : decode cL_law 28 = .ok (.iconst 0, 1) := by decide +kernel
theorem dL_law_29 : decode cL_law 29 = .ok (.istore_n 2, 1) := by decide +kernel
theorem dL_law_30 : decode cL_law 30 = .ok (.iload_n 2, 1) := by decide +kernel
theorem dL_law_31 : decode cL_law 31 = .ok (.bipush 30, 2) := by decide +kernel
theorem dL_law_33 : decode cL_law 33 = .ok (.if_icmp .ge 194, 3) := by decide +kernel
theorem dL_law_36 : decode cL_law 36 = .ok (.aload_n 0, 1) := by decide +kernel
theorem dL_law_37 : decode cL_law 37 = .ok (.arraylength, 1) := by decide +kernel
theorem dL_law_38 : decode cL_law 38 = .ok (.ifCond .ne 10, 3) := by decide +kernel
theorem dL_law_41 : decode cL_law 41 = .ok (.bipush 41, 2) := by decide +kernel
theorem dL_law_43 : decode cL_law 43 = .ok (.iload_n 2, 1) := by decide +kernel
theorem dL_law_44 : decode cL_law 44 = .ok (.imul, 1) := by decide +kernel
theorem dL_law_45 : decode cL_law 45 = .ok (.goto 12, 3) := by decide +kernel
theorem dL_law_48 : decode cL_law 48 = .ok (.aload_n 0, 1) := by decide +kernel
theorem dL_law_49 : decode cL_law 49 = .ok (.iload_n 2, 1) := by decide +kernel
theorem dL_law_50 : decode cL_law 50 = .ok (.aload_n 0, 1) := by decide +kernel
theorem dL_law_51 : decode cL_law 51 = .ok (.arraylength, 1) := by decide +kernel
theorem dL_law_52 : decode cL_law 52 = .ok (.irem, 1) := by decide +kernel
theorem dL_law_53 : decode cL_law 53 = .ok (.iaload, 1) := by decide +kernel
theorem dL_law_54 : decode cL_law 54 = .ok (.bipush 7, 2) := by decide +kernel
theorem dL_law_56 : decode cL_law 56 = .ok (.iushr, 1) := by decide +kernel
theorem dL_law_57 : decode cL_law 57 = .ok (.istore_n 3, 1) := by decide +kernel
theorem dL_law_58 : decode cL_law 58 = .ok (.iload_n 2, 1) := by decide +kernel
theorem dL_law_59 : decode cL_law 59 = .ok (.bipush 8, 2) := by decide +kernel
theorem dL_law_61 : decode cL_law 61 = .ok (.if_icmp .ge 23, 3) := by decide +kernel
theorem dL_law_64 : decode cL_law 64 = .ok (.aload_n 1, 1) := by decide +kernel
theorem dL_law_65 : decode cL_law 65 = .ok (.iload_n 3, 1) := by decide +kernel
theorem dL_law_66 : decode cL_law 66 = .ok (.iconst 4, 1) := by decide +kernel
theorem dL_law_67 : decode cL_law 67 = .ok (.irem, 1) := by decide +kernel
theorem dL_law_68 : decode cL_law 68 = .ok (.bipush 6, 2) := by decide +kernel
theorem dL_law_70 : decode cL_law 70 = .ok (.iload_n 3, 1) := by decide +kernel
theorem dL_law_71 : decode cL_law 71 = .ok (.bipush 27, 2) := by decide +kernel
theorem dL_law_73 : decode cL_law 73 = .ok (.irem, 1) := by decide +kernel
theorem dL_law_74 : decode cL_law 74 = .ok (.iadd, 1) := by decide +kernel
theorem dL_law_75 : decode cL_law 75 = .ok (.invokevirtual 7, 3) := by decide +kernel
theorem dL_law_78 : decode cL_law 78 = .ok (.iload_n 2, 1) := by decide +kernel
theorem dL_law_79 : decode cL_law 79 = .ok (.if_icmp .eq 5, 3) := by decide +kernel
theorem dL_law_82 : decode cL_law 82 = .ok (.iconst 0, 1) := by decide +kernel
theorem dL_law_83 : decode cL_law 83 = .ok (.ireturn, 1) := by decide +kernel
theorem dL_law_84 : decode cL_law 84 = .ok (.iload_n 3, 1) := by decide +kernel
theorem dL_law_85 : decode cL_law 85 = .ok (.aload_n 1, 1) := by decide +kernel
theorem dL_law_86 : decode cL_law 86 = .ok (.invokevirtual 69, 3) := by decide +kernel
theorem dL_law_89 : decode cL_law 89 = .ok (.irem, 1) := by decide +kernel
theorem dL_law_90 : decode cL_law 90 = .ok (.istore 4, 2) := by decide +kernel
theorem dL_law_92 : decode cL_law 92 = .ok (.aload_n 1, 1) := by decide +kernel
theorem dL_law_93 : decode cL_law 93 = .ok (.iload 4, 2) := by decide +kernel
theorem dL_law_95 : decode cL_law 95 = .ok (.invokevirtual 39, 3) := by decide +kernel
theorem dL_law_98 : decode cL_law 98 = .ok (.ifCond .lt 7, 3) := by decide +kernel
theorem dL_law_101 : decode cL_law 101 = .ok (.iconst 1, 1) := by decide +kernel
theorem dL_law_102 : decode cL_law 102 = .ok (.goto 4, 3) := by decide +kernel
theorem dL_law_105 : decode cL_law 105 = .ok (.iconst 0, 1) := by decide +kernel
theorem dL_law_106 : decode cL_law 106 = .ok (.istore 5, 2) := by decide +kernel
theorem dL_law_108 : decode cL_law 108 = .ok (.aload_n 1, 1) := by decide +kernel
theorem dL_law_109 : decode cL_law 109 = .ok (.iconst 4, 1) := by decide +kernel
theorem dL_law_110 : decode cL_law 110 = .ok (.iload 4, 2) := by decide +kernel
theorem dL_law_112 : decode cL_law 112 = .ok (.iconst 1, 1) := by decide +kernel
theorem dL_law_113 : decode cL_law 113 = .ok (.iload_n 3, 1) := by decide +kernel
theorem dL_law_114 : decode cL_law 114 = .ok (.sipush 5000, 3) := by decide +kernel
theorem dL_law_117 : decode cL_law 117 = .ok (.irem, 1) := by decide +kernel
theorem dL_law_118 : decode cL_law 118 = .ok (.iadd, 1) := by decide +kernel
theorem dL_law_119 : decode cL_law 119 = .ok (.iconst 1, 1) := by decide +kernel
theorem dL_law_120 : decode cL_law 120 = .ok (.iload_n 3, 1) := by decide +kernel
theorem dL_law_121 : decode cL_law 121 = .ok (.bipush 32, 2) := by decide +kernel
theorem dL_law_123 : decode cL_law 123 = .ok (.irem, 1) := by decide +kernel
theorem dL_law_124 : decode cL_law 124 = .ok (.iadd, 1) := by decide +kernel
theorem dL_law_125 : decode cL_law 125 = .ok (.iconst 1, 1) := by decide +kernel
theorem dL_law_126 : decode cL_law 126 = .ok (.iload_n 3, 1) := by decide +kernel
theorem dL_law_127 : decode cL_law 127 = .ok (.sipush 500, 3) := by decide +kernel
theorem dL_law_130 : decode cL_law 130 = .ok (.irem, 1) := by decide +kernel
theorem dL_law_131 : decode cL_law 131 = .ok (.iadd, 1) := by decide +kernel
theorem dL_law_132 : decode cL_law 132 = .ok (.invokestatic 83, 3) := by decide +kernel
theorem dL_law_135 : decode cL_law 135 = .ok (.ldc 68, 2) := by decide +kernel
theorem dL_law_137 : decode cL_law 137 = .ok (.if_icmp .ne 7, 3) := by decide +kernel
theorem dL_law_140 : decode cL_law 140 = .ok (.iconst 1, 1) := by decide +kernel
theorem dL_law_141 : decode cL_law 141 = .ok (.goto 4, 3) := by decide +kernel
theorem dL_law_144 : decode cL_law 144 = .ok (.iconst 0, 1) := by decide +kernel
theorem dL_law_145 : decode cL_law 145 = .ok (.iload 5, 2) := by decide +kernel
theorem dL_law_147 : decode cL_law 147 = .ok (.if_icmp .ne 72, 3) := by decide +kernel
theorem dL_law_150 : decode cL_law 150 = .ok (.aload_n 1, 1) := by decide +kernel
theorem dL_law_151 : decode cL_law 151 = .ok (.iconst 5, 1) := by decide +kernel
theorem dL_law_152 : decode cL_law 152 = .ok (.iload 4, 2) := by decide +kernel
theorem dL_law_154 : decode cL_law 154 = .ok (.iconst 0, 1) := by decide +kernel
theorem dL_law_155 : decode cL_law 155 = .ok (.iconst 0, 1) := by decide +kernel
theorem dL_law_156 : decode cL_law 156 = .ok (.iconst 0, 1) := by decide +kernel
theorem dL_law_157 : decode cL_law 157 = .ok (.invokestatic 83, 3) := by decide +kernel
theorem dL_law_160 : decode cL_law 160 = .ok (.ifCond .lt 59, 3) := by decide +kernel
theorem dL_law_163 : decode cL_law 163 = .ok (.aload_n 1, 1) := by decide +kernel
theorem dL_law_164 : decode cL_law 164 = .ok (.iload 4, 2) := by decide +kernel
theorem dL_law_166 : decode cL_law 166 = .ok (.iconst 1, 1) := by decide +kernel
theorem dL_law_167 : decode cL_law 167 = .ok (.iload_n 3, 1) := by decide +kernel
theorem dL_law_168 : decode cL_law 168 = .ok (.sipush 300, 3) := by decide +kernel
theorem dL_law_171 : decode cL_law 171 = .ok (.irem, 1) := by decide +kernel
theorem dL_law_172 : decode cL_law 172 = .ok (.iadd, 1) := by decide +kernel
theorem dL_law_173 : decode cL_law 173 = .ok (.iconst 1, 1) := by decide +kernel
theorem dL_law_174 : decode cL_law 174 = .ok (.iload_n 3, 1) := by decide +kernel
theorem dL_law_175 : decode cL_law 175 = .ok (.bipush 32, 2) := by decide +kernel
theorem dL_law_177 : decode cL_law 177 = .ok (.irem, 1) := by decide +kernel
theorem dL_law_178 : decode cL_law 178 = .ok (.iadd, 1) := by decide +kernel
theorem dL_law_179 : decode cL_law 179 = .ok (.iconst 1, 1) := by decide +kernel
theorem dL_law_180 : decode cL_law 180 = .ok (.iload_n 3, 1) := by decide +kernel
theorem dL_law_181 : decode cL_law 181 = .ok (.bipush 20, 2) := by decide +kernel
theorem dL_law_183 : decode cL_law 183 = .ok (.irem, 1) := by decide +kernel
theorem dL_law_184 : decode cL_law 184 = .ok (.iadd, 1) := by decide +kernel
theorem dL_law_185 : decode cL_law 185 = .ok (.invokevirtual 23, 3) := by decide +kernel
theorem dL_law_188 : decode cL_law 188 = .ok (.sipush (-300), 3) := by decide +kernel
theorem dL_law_191 : decode cL_law 191 = .ok (.if_icmp .lt 28, 3) := by decide +kernel
theorem dL_law_194 : decode cL_law 194 = .ok (.iload_n 2, 1) := by decide +kernel
theorem dL_law_195 : decode cL_law 195 = .ok (.iconst 5, 1) := by decide +kernel
theorem dL_law_196 : decode cL_law 196 = .ok (.irem, 1) := by decide +kernel
theorem dL_law_197 : decode cL_law 197 = .ok (.ifCond .ne 24, 3) := by decide +kernel
theorem dL_law_200 : decode cL_law 200 = .ok (.aload_n 1, 1) := by decide +kernel
theorem dL_law_201 : decode cL_law 201 = .ok (.invokestatic 97, 3) := by decide +kernel
theorem dL_law_204 : decode cL_law 204 = .ok (.ifCond .eq 15, 3) := by decide +kernel
theorem dL_law_207 : decode cL_law 207 = .ok (.aload_n 1, 1) := by decide +kernel
theorem dL_law_208 : decode cL_law 208 = .ok (.iconst 1, 1) := by decide +kernel
theorem dL_law_209 : decode cL_law 209 = .ok (.iload_n 3, 1) := by decide +kernel
theorem dL_law_210 : decode cL_law 210 = .ok (.iconst 4, 1) := by decide +kernel
theorem dL_law_211 : decode cL_law 211 = .ok (.irem, 1) := by decide +kernel
theorem dL_law_212 : decode cL_law 212 = .ok (.iadd, 1) := by decide +kernel
theorem dL_law_213 : decode cL_law 213 = .ok (.invokevirtual 36, 3) := by decide +kernel
theorem dL_law_216 : decode cL_law 216 = .ok (.ifCond .ge 5, 3) := by decide +kernel
theorem dL_law_219 : decode cL_law 219 = .ok (.iconst 0, 1) := by decide +kernel
theorem dL_law_220 : decode cL_law 220 = .ok (.ireturn, 1) := by decide +kernel
theorem dL_law_221 : decode cL_law 221 = .ok (.iinc 2 1, 3) := by decide +kernel
theorem dL_law_224 : decode cL_law 224 = .ok (.goto (-194), 3) := by decide +kernel
theorem dL_law_227 : decode cL_law 227 = .ok (.iconst 1, 1) := by decide +kernel
theorem dL_law_228 : decode cL_law 228 = .ok (.ireturn, 1) := by decide +kernel
abbrev vwCl : List vw_C := [(RX0, TX0, 16)]
