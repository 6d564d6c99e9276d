set_option maxRecDepth 20000 in
theorem ggL_cars_X0_init : GoodIn wsL_cars wsX0_init := goodIn_r _ [6, 7, 8, 9, 10, 11, 12, 13, 14, 15, 16, 17, 18, 19, 20, 21, 22, 251, 252, 253, 254, 255, 256, 257, 258, 259, 260, 261, 262, 263, 264, 265, 266] (by decide +kernel) (by decide +kernel)
set_option maxRecDepth 20000 in
theorem gL_cars_X0_init : GoodIn wsL_cars (wsX0_init) := ggL_cars_X0_init
set_option maxRecDepth 20000 in
theorem ggL_cars_X0_point : GoodIn wsL_cars wsX0_point := goodIn_ca (goodIn_ca (goodIn_r _ [26, 27, 28, 29, 11, 12, 13, 30, 31, 3, 32, 33, 34, 35, 36, 37, 251, 252, 253, 254, 255, 256, 257, 258, 259, 260, 261, 262, 263, 264, 265, 266] (by decide +kernel) (by decide +kernel)) (goodIn_sub (fun _ h => List.mem_cons_of_mem _ (List.mem_append_left _ (List.mem_append_left _ (List.mem_append_right _ h)))) (by decide +kernel))) (goodIn_sub (fun _ h => List.mem_cons_of_mem _ (List.mem_append_left _ (List.mem_append_right _ h))) (by decide +kernel))
set_option maxRecDepth 20000 in
theorem gL_cars_X0_point : GoodIn wsL_cars (wsV RL 7 RX0 yX0_point wsX0_point) := goodIn_app (goodIn_of _ (by decide +kernel)) ggL_cars_X0_point
set_option maxRecDepth 20000 in
theorem ggL_cars_X0_plugIn : GoodIn wsL_cars wsX0_plugIn := goodIn_ca (goodIn_ca (goodIn_ca (goodIn_r _ [41, 27, 28, 13, 14, 15, 42, 43, 44, 45, 3, 46, 47, 48, 29, 35, 36, 37, 33, 34, 49, 50, 51, 52, 53, 54, 55, 56, 57, 58, 59, 60, 12, 61, 62, 63, 64, 65, 66, 67, 68, 11, 69, 70, 71, 72, 73, 74, 75, 76, 77, 78, 251, 252, 253, 254, 255, 256, 257, 258, 259, 260, 261, 262, 263, 264, 265, 266] (by decide +kernel) (by decide +kernel)) (goodIn_sub (fun _ h => List.mem_cons_of_mem _ (List.mem_append_left _ (List.mem_append_left _ (List.mem_append_right _ h)))) (by decide +kernel))) (goodIn_sub (fun _ h => List.mem_cons_of_mem _ (List.mem_append_right _ h)) (by decide +kernel))) (goodIn_sub (fun _ h => List.mem_cons_of_mem _ (List.mem_append_left _ (List.mem_append_right _ h))) (by decide +kernel))
set_option maxRecDepth 20000 in
theorem gL_cars_X0_plugIn : GoodIn wsL_cars (wsV RL 23 RX0 yX0_plugIn wsX0_plugIn) := goodIn_app (goodIn_of _ (by decide +kernel)) ggL_cars_X0_plugIn
set_option maxRecDepth 20000 in
theorem ggL_cars_X0_reach : GoodIn wsL_cars wsX0_reach := goodIn_ca (goodIn_r _ [82, 43, 44, 45, 3, 46, 47, 48, 29, 83, 84, 85, 86, 13, 61, 62, 63, 64, 87, 88, 89, 90, 15, 42, 65, 66, 67, 68, 11, 76, 77, 78, 57, 58, 59, 60, 12, 14, 251, 252, 253, 254, 255, 256, 257, 258, 259, 260, 261, 262, 263, 264, 265, 266] (by decide +kernel) (by decide +kernel)) (goodIn_sub (fun _ h => List.mem_cons_of_mem _ (List.mem_append_right _ h)) (by decide +kernel))
set_option maxRecDepth 20000 in
theorem gL_cars_X0_reach : GoodIn wsL_cars (wsV RL 48 RX0 yX0_reach wsX0_reach) := goodIn_app (goodIn_of _ (by decide +kernel)) ggL_cars_X0_reach
set_option maxRecDepth 20000 in
theorem ggL_cars_X0_canBeReady : GoodIn wsL_cars wsX0_canBeReady := goodIn_r _ [94, 29, 13, 53, 54, 55, 3, 56, 57, 58, 59, 60, 12, 14, 61, 62, 63, 64, 65, 66, 67, 68, 11, 69, 70, 71, 72, 15, 42, 73, 74, 75, 76, 77, 78, 251, 252, 253, 254, 255, 256, 257, 258, 259, 260, 261, 262, 263, 264, 265, 266] (by decide +kernel) (by decide +kernel)
set_option maxRecDepth 20000 in
theorem gL_cars_X0_canBeReady : GoodIn wsL_cars (wsV RL 93 RX0 yX0_canBeReady wsX0_canBeReady) := goodIn_app (goodIn_of _ (by decide +kernel)) ggL_cars_X0_canBeReady
set_option maxRecDepth 20000 in
theorem ggL_cars_X0_step : GoodIn wsL_cars wsX0_step := goodIn_ca (goodIn_r _ [98, 99, 42, 35, 36, 3, 37, 33, 34, 100, 101, 102, 103, 22, 104, 105, 106, 107, 29, 17, 16, 19, 83, 84, 85, 86, 13, 61, 62, 63, 64, 87, 88, 89, 90, 15, 65, 66, 67, 68, 11, 76, 77, 78, 57, 58, 59, 60, 12, 14, 108, 109, 110, 111, 112, 113, 114, 115, 116, 117, 118, 119, 20, 120, 121, 122, 123, 124, 125, 126, 127, 128, 129, 130, 131, 18, 132, 133, 134, 135, 53, 54, 55, 56, 69, 70, 71, 72, 73, 74, 75, 136, 137, 138, 139, 21, 140, 141, 142, 143, 144, 145, 146, 147, 148, 149, 150, 151, 152, 153, 154, 155, 251, 252, 253, 254, 255, 256, 257, 258, 259, 260, 261, 262, 263, 264, 265, 266] (by decide +kernel) (by decide +kernel)) (goodIn_sub (fun _ h => List.mem_cons_of_mem _ (List.mem_append_left _ (List.mem_append_right _ h))) (by decide +kernel))
set_option maxRecDepth 20000 in
theorem gL_cars_X0_step : GoodIn wsL_cars (wsV RL 36 RX0 yX0_step wsX0_step) := goodIn_app (goodIn_of _ (by decide +kernel)) ggL_cars_X0_step
set_option maxRecDepth 20000 in
theorem ggL_cars_X0_need : GoodIn wsL_cars wsX0_need := goodIn_ca (goodIn_r _ [159, 13, 43, 44, 45, 3, 46, 47, 48, 29, 251, 252, 253, 254, 255, 256, 257, 258, 259, 260, 261, 262, 263, 264, 265, 266] (by decide +kernel) (by decide +kernel)) (goodIn_sub (fun _ h => List.mem_cons_of_mem _ (List.mem_append_right _ h)) (by decide +kernel))
set_option maxRecDepth 20000 in
theorem gL_cars_X0_need : GoodIn wsL_cars (wsV RL 39 RX0 yX0_need wsX0_need) := goodIn_app (goodIn_of _ (by decide +kernel)) ggL_cars_X0_need
set_option maxRecDepth 20000 in
theorem ggL_cars_X0_left : GoodIn wsL_cars wsX0_left := goodIn_ca (goodIn_r _ [163, 43, 44, 45, 3, 46, 47, 48, 29, 49, 50, 51, 52, 13, 69, 70, 71, 72, 15, 42, 73, 74, 63, 75, 251, 252, 253, 254, 255, 256, 257, 258, 259, 260, 261, 262, 263, 264, 265, 266] (by decide +kernel) (by decide +kernel)) (goodIn_sub (fun _ h => List.mem_cons_of_mem _ (List.mem_append_right _ h)) (by decide +kernel))
set_option maxRecDepth 20000 in
theorem gL_cars_X0_left : GoodIn wsL_cars (wsV RL 42 RX0 yX0_left wsX0_left) := goodIn_app (goodIn_of _ (by decide +kernel)) ggL_cars_X0_left
set_option maxRecDepth 20000 in
theorem ggL_cars_X0_laxity : GoodIn wsL_cars wsX0_laxity := goodIn_ca (goodIn_ca (goodIn_r _ [167, 43, 44, 45, 3, 46, 47, 48, 29, 168, 169, 170, 171, 27, 28, 49, 50, 51, 52, 13, 53, 54, 55, 56, 57, 58, 59, 60, 12, 14, 61, 62, 63, 64, 65, 66, 67, 68, 11, 69, 70, 71, 72, 15, 42, 73, 74, 75, 76, 77, 78, 251, 252, 253, 254, 255, 256, 257, 258, 259, 260, 261, 262, 263, 264, 265, 266] (by decide +kernel) (by decide +kernel)) (goodIn_sub (fun _ h => List.mem_cons_of_mem _ (List.mem_append_right _ h)) (by decide +kernel))) (goodIn_sub (fun _ h => List.mem_cons_of_mem _ (List.mem_append_left _ (List.mem_append_left _ (List.mem_append_right _ h)))) (by decide +kernel))
set_option maxRecDepth 20000 in
theorem gL_cars_X0_laxity : GoodIn wsL_cars (wsV RL 45 RX0 yX0_laxity wsX0_laxity) := goodIn_app (goodIn_of _ (by decide +kernel)) ggL_cars_X0_laxity
set_option maxRecDepth 20000 in
theorem ggL_cars_X0_load : GoodIn wsL_cars wsX0_load := goodIn_ca (goodIn_r _ [175, 19, 30, 31, 3, 32, 33, 34, 100, 101, 102, 103, 22, 104, 105, 106, 107, 29, 17, 16, 83, 84, 85, 86, 13, 61, 62, 63, 64, 87, 88, 89, 90, 15, 42, 65, 66, 67, 68, 11, 76, 77, 78, 57, 58, 59, 60, 12, 14, 108, 109, 110, 111, 112, 113, 114, 115, 116, 117, 118, 119, 20, 120, 121, 122, 123, 124, 125, 126, 127, 128, 129, 130, 131, 18, 132, 133, 134, 135, 53, 54, 55, 56, 69, 70, 71, 72, 73, 74, 75, 136, 137, 138, 139, 21, 140, 141, 142, 143, 144, 145, 146, 147, 148, 149, 150, 151, 251, 252, 253, 254, 255, 256, 257, 258, 259, 260, 261, 262, 263, 264, 265, 266] (by decide +kernel) (by decide +kernel)) (goodIn_sub (fun _ h => List.mem_cons_of_mem _ (List.mem_append_left _ (List.mem_append_right _ h))) (by decide +kernel))
set_option maxRecDepth 20000 in
theorem gL_cars_X0_load : GoodIn wsL_cars (wsV RL 54 RX0 yX0_load wsX0_load) := goodIn_app (goodIn_of _ (by decide +kernel)) ggL_cars_X0_load
set_option maxRecDepth 20000 in
theorem ggL_cars_X0_appetite : GoodIn wsL_cars wsX0_appetite := goodIn_ca (goodIn_ca (goodIn_ca (goodIn_r _ [179, 14, 43, 44, 45, 3, 46, 47, 48, 29, 35, 36, 37, 33, 34, 168, 169, 170, 171, 27, 28, 49, 50, 51, 52, 13, 251, 252, 253, 254, 255, 256, 257, 258, 259, 260, 261, 262, 263, 264, 265, 266] (by decide +kernel) (by decide +kernel)) (goodIn_sub (fun _ h => List.mem_cons_of_mem _ (List.mem_append_right _ h)) (by decide +kernel))) (goodIn_sub (fun _ h => List.mem_cons_of_mem _ (List.mem_append_left _ (List.mem_append_right _ h))) (by decide +kernel))) (goodIn_sub (fun _ h => List.mem_cons_of_mem _ (List.mem_append_left _ (List.mem_append_left _ (List.mem_append_right _ h)))) (by decide +kernel))
set_option maxRecDepth 20000 in
theorem gL_cars_X0_appetite : GoodIn wsL_cars (wsV RL 30 RX0 yX0_appetite wsX0_appetite) := goodIn_app (goodIn_of _ (by decide +kernel)) ggL_cars_X0_appetite
set_option maxRecDepth 20000 in
theorem ggL_cars_X0_held : GoodIn wsL_cars wsX0_held := goodIn_r _ [183, 29, 17, 16, 100, 101, 102, 3, 103, 22, 104, 105, 106, 107, 19, 83, 84, 85, 86, 13, 61, 62, 63, 64, 87, 88, 89, 90, 15, 42, 65, 66, 67, 68, 11, 76, 77, 78, 57, 58, 59, 60, 12, 14, 108, 109, 110, 111, 112, 113, 114, 115, 116, 117, 118, 119, 20, 120, 121, 122, 123, 124, 125, 126, 127, 128, 129, 130, 131, 18, 132, 133, 134, 135, 53, 54, 55, 56, 69, 70, 71, 72, 73, 74, 75, 136, 137, 138, 139, 21, 140, 141, 142, 143, 144, 145, 146, 147, 148, 149, 150, 151, 251, 252, 253, 254, 255, 256, 257, 258, 259, 260, 261, 262, 263, 264, 265, 266] (by decide +kernel) (by decide +kernel)
set_option maxRecDepth 20000 in
theorem gL_cars_X0_held : GoodIn wsL_cars (wsV RL 79 RX0 yX0_held wsX0_held) := goodIn_app (goodIn_of _ (by decide +kernel)) ggL_cars_X0_held
set_option maxRecDepth 20000 in
theorem ggL_cars_X0_stay : GoodIn wsL_cars wsX0_stay := goodIn_ca (goodIn_ca (goodIn_ca (goodIn_r _ [187, 15, 42, 73, 74, 63, 75, 43, 44, 45, 3, 46, 47, 48, 29, 35, 36, 37, 33, 34, 168, 169, 170, 171, 27, 28, 49, 50, 51, 52, 13, 69, 70, 71, 72, 251, 252, 253, 254, 255, 256, 257, 258, 259, 260, 261, 262, 263, 264, 265, 266] (by decide +kernel) (by decide +kernel)) (goodIn_sub (fun _ h => List.mem_cons_of_mem _ (List.mem_append_right _ h)) (by decide +kernel))) (goodIn_sub (fun _ h => List.mem_cons_of_mem _ (List.mem_append_left _ (List.mem_append_right _ h))) (by decide +kernel))) (goodIn_sub (fun _ h => List.mem_cons_of_mem _ (List.mem_append_left _ (List.mem_append_left _ (List.mem_append_right _ h)))) (by decide +kernel))
set_option maxRecDepth 20000 in
theorem gL_cars_X0_stay : GoodIn wsL_cars (wsV RL 33 RX0 yX0_stay wsX0_stay) := goodIn_app (goodIn_of _ (by decide +kernel)) ggL_cars_X0_stay
set_option maxRecDepth 20000 in
theorem ggL_cars_X0_current : GoodIn wsL_cars wsX0_current := goodIn_ca (goodIn_r _ [191, 17, 43, 44, 45, 3, 46, 47, 48, 29, 100, 101, 102, 103, 22, 104, 105, 106, 107, 16, 19, 83, 84, 85, 86, 13, 61, 62, 63, 64, 87, 88, 89, 90, 15, 42, 65, 66, 67, 68, 11, 76, 77, 78, 57, 58, 59, 60, 12, 14, 108, 109, 110, 111, 112, 113, 114, 115, 116, 117, 118, 119, 20, 120, 121, 122, 123, 124, 125, 126, 127, 128, 129, 130, 131, 18, 132, 133, 134, 135, 53, 54, 55, 56, 69, 70, 71, 72, 73, 74, 75, 136, 137, 138, 139, 21, 140, 141, 142, 143, 144, 145, 146, 147, 148, 149, 150, 151, 251, 252, 253, 254, 255, 256, 257, 258, 259, 260, 261, 262, 263, 264, 265, 266] (by decide +kernel) (by decide +kernel)) (goodIn_sub (fun _ h => List.mem_cons_of_mem _ (List.mem_append_right _ h)) (by decide +kernel))
set_option maxRecDepth 20000 in
theorem gL_cars_X0_current : GoodIn wsL_cars (wsV RL 51 RX0 yX0_current wsX0_current) := goodIn_app (goodIn_of _ (by decide +kernel)) ggL_cars_X0_current
set_option maxRecDepth 20000 in
theorem ggL_cars_X0_takeOut : GoodIn wsL_cars wsX0_takeOut := goodIn_ca (goodIn_ca (goodIn_r _ [195, 13, 196, 43, 44, 45, 3, 46, 47, 48, 29, 168, 169, 170, 171, 27, 28, 49, 50, 51, 52, 251, 252, 253, 254, 255, 256, 257, 258, 259, 260, 261, 262, 263, 264, 265, 266] (by decide +kernel) (by decide +kernel)) (goodIn_sub (fun _ h => List.mem_cons_of_mem _ (List.mem_append_right _ h)) (by decide +kernel))) (goodIn_sub (fun _ h => List.mem_cons_of_mem _ (List.mem_append_left _ (List.mem_append_left _ (List.mem_append_right _ h)))) (by decide +kernel))
set_option maxRecDepth 20000 in
theorem gL_cars_X0_takeOut : GoodIn wsL_cars (wsV RL 27 RX0 yX0_takeOut wsX0_takeOut) := goodIn_app (goodIn_of _ (by decide +kernel)) ggL_cars_X0_takeOut
set_option maxRecDepth 20000 in
theorem ggL_cars_X0_served : GoodIn wsL_cars wsX0_served := goodIn_r _ [200, 196, 251, 252, 253, 254, 255, 256, 257, 258, 259, 260, 261, 262, 263, 264, 265, 266] (by decide +kernel) (by decide +kernel)
set_option maxRecDepth 20000 in
theorem gL_cars_X0_served : GoodIn wsL_cars (wsV RL 108 RX0 yX0_served wsX0_served) := goodIn_app (goodIn_of _ (by decide +kernel)) ggL_cars_X0_served
set_option maxRecDepth 20000 in
theorem ggL_cars_X0_taken : GoodIn wsL_cars wsX0_taken := goodIn_r _ [204, 99, 251, 252, 253, 254, 255, 256, 257, 258, 259, 260, 261, 262, 263, 264, 265, 266] (by decide +kernel) (by decide +kernel)
set_option maxRecDepth 20000 in
theorem gL_cars_X0_taken : GoodIn wsL_cars (wsV RL 76 RX0 yX0_taken wsX0_taken) := goodIn_app (goodIn_of _ (by decide +kernel)) ggL_cars_X0_taken
set_option maxRecDepth 100000 in
theorem hL_cars_L_refuses_c : GoodIn wsL_cars [Cond.code yL_refuses cL_refuses 15 (some .boolean)] := gi_1 208 rfl (by decide +kernel)
set_option maxRecDepth 100000 in
theorem hL_cars_L_refuses_0 : GoodIn wsL_cars wsL_refuses_r1 := goodIn_r wsL_refuses_r1 [209, 210, 211, 212, 213, 214, 3, 215, 29, 216, 217, 218, 219, 42, 201, 202, 203, 204, 99, 180, 181, 182, 183, 17] (by decide +kernel) (by decide +kernel)
set_option maxRecDepth 100000 in
theorem hL_cars_L_refuses_1 : GoodIn wsL_cars wsL_refuses_r2 := goodIn_r wsL_refuses_r2 [16, 100, 101, 102, 103, 22, 104, 105, 106, 107, 19, 83, 84, 85, 86, 13, 61, 62, 63, 64, 87, 88, 89, 90] (by decide +kernel) (by decide +kernel)
set_option maxRecDepth 100000 in
theorem hL_cars_L_refuses_2 : GoodIn wsL_cars wsL_refuses_r3 := goodIn_r wsL_refuses_r3 [15, 65, 66, 67, 68, 11, 76, 77, 78, 57, 58, 59, 60, 12, 14, 108, 109, 110, 111, 112, 113, 114, 115, 116] (by decide +kernel) (by decide +kernel)
set_option maxRecDepth 100000 in
theorem hL_cars_L_refuses_3 : GoodIn wsL_cars wsL_refuses_r4 := goodIn_r wsL_refuses_r4 [117, 118, 119, 20, 120, 121, 122, 123, 124, 125, 126, 127, 128, 129, 130, 131, 18, 132, 133, 134, 135, 53, 54, 55] (by decide +kernel) (by decide +kernel)
set_option maxRecDepth 100000 in
theorem hL_cars_L_refuses_4 : GoodIn wsL_cars wsL_refuses_r5 := goodIn_r wsL_refuses_r5 [56, 69, 70, 71, 72, 73, 74, 75, 136, 137, 138, 139, 21, 140, 141, 142, 143, 144, 145, 146, 147, 148, 149, 150] (by decide +kernel) (by decide +kernel)
set_option maxRecDepth 100000 in
theorem hL_cars_L_refuses_5 : GoodIn wsL_cars wsL_refuses_r6 := goodIn_r wsL_refuses_r6 [151, 220, 221, 207, 222, 223, 224, 225, 226, 23, 24, 25, 26, 27, 28, 30, 31, 32, 33, 34, 35, 36, 37, 227] (by decide +kernel) (by decide +kernel)
set_option maxRecDepth 100000 in
theorem hL_cars_L_refuses_6 : GoodIn wsL_cars wsL_refuses_r7 := goodIn_r wsL_refuses_r7 [228, 229, 230, 231, 232, 233, 234, 235, 236, 237, 238, 38, 39, 40, 41, 43, 44, 45, 46, 47, 48, 49, 50, 51] (by decide +kernel) (by decide +kernel)
set_option maxRecDepth 100000 in
theorem hL_cars_L_refuses_7 : GoodIn wsL_cars wsL_refuses_r8 := goodIn_r wsL_refuses_r8 [52, 192, 193, 194, 195, 196, 168, 169, 170, 171, 176, 177, 178, 179, 184, 185, 186, 187, 95, 96, 97, 98, 152, 153] (by decide +kernel) (by decide +kernel)
set_option maxRecDepth 100000 in
theorem hL_cars_L_refuses_8 : GoodIn wsL_cars wsL_refuses_r9 := goodIn_r wsL_refuses_r9 [154, 155, 156, 157, 158, 159, 160, 161, 162, 163, 164, 165, 166, 167, 79, 80, 81, 82, 188, 189, 190, 191, 172, 173] (by decide +kernel) (by decide +kernel)
set_option maxRecDepth 100000 in
theorem hL_cars_L_refuses_9 : GoodIn wsL_cars wsL_refuses_r10 := goodIn_r wsL_refuses_r10 [174, 175, 239, 240, 241, 242, 243, 244, 245, 246, 247, 248, 249, 250] (by decide +kernel) (by decide +kernel)
set_option maxRecDepth 100000 in
theorem hL_cars_L_refuses_x : GoodIn wsL_cars wsX00 := goodIn_r wsX00 [251, 252, 253, 254, 255, 256, 257, 258, 259, 260, 261, 262, 263, 264, 265, 266] (by decide +kernel) (by decide +kernel)
set_option maxRecDepth 20000 in
theorem ggL_cars_L_refuses : GoodIn wsL_cars wsL_refuses := goodIn_ca (goodIn_ca (goodIn_ca ((gi_c hL_cars_L_refuses_c (goodIn_app (goodIn_app hL_cars_L_refuses_0 (goodIn_app hL_cars_L_refuses_1 (goodIn_app hL_cars_L_refuses_2 (goodIn_app hL_cars_L_refuses_3 (goodIn_app hL_cars_L_refuses_4 (goodIn_app hL_cars_L_refuses_5 (goodIn_app hL_cars_L_refuses_6 (goodIn_app hL_cars_L_refuses_7 (goodIn_app hL_cars_L_refuses_8 hL_cars_L_refuses_9))))))))) hL_cars_L_refuses_x))) (goodIn_sub (fun _ h => List.mem_cons_of_mem _ (List.mem_append_left _ (List.mem_append_left _ (List.mem_append_right _ h)))) (by decide +kernel))) (goodIn_sub (fun _ h => List.mem_cons_of_mem _ (List.mem_append_left _ (List.mem_append_right _ h))) (by decide +kernel))) (goodIn_sub (fun _ h => List.mem_cons_of_mem _ (List.mem_append_right _ h)) (by decide +kernel))
set_option maxRecDepth 20000 in
theorem gL_cars_L_refuses : GoodIn wsL_cars (va_wsS RL 97 yL_refuses wsL_refuses) := goodIn_app (goodIn_of _ (by decide +kernel)) ggL_cars_L_refuses
theorem dL_cars_0 : decode cL_cars 0 = .ok (.new 8, 3) := by decide +kernel
theorem dL_cars_3 : decode cL_cars 3 = .ok (.dup, 1) := by decide +kernel
theorem dL_cars_4 : decode cL_cars 4 = .ok (.invokespecial 92, 3) := by decide +kernel
theorem dL_cars_7 : decode cL_cars 7 = .ok (.astore_n 0, 1) := by decide +kernel
theorem dL_cars_8 : decode cL_cars 8 = .ok (.aload_n 0, 1) := by decide +kernel
theorem dL_cars_9 : decode cL_cars 9 = .ok (.iconst 3, 1) := by decide +kernel
theorem dL_cars_10 : decode cL_cars 10 = .ok (.bipush 6, 2) := by decide +kernel
theorem dL_cars_12 : decode cL_cars 12 = .ok (.invokevirtual 7, 3) := by decide +kernel
theorem dL_cars_15 : decode cL_cars 15 = .ok (.ifCond .ne 239, 3) := by decide +kernel
theorem dL_cars_18 : decode cL_cars 18 = .ok (.aload_n 0, 1) := by decide +kernel
theorem dL_cars_19 : decode cL_cars 19 = .ok (.iconst 2, 1) := by decide +kernel
theorem dL_cars_20 : decode cL_cars 20 = .ok (.bipush 6, 2) := by decide +kernel
theorem dL_cars_22 : decode cL_cars 22 = .ok (.invokevirtual 7, 3) := by decide +kernel
theorem dL_cars_25 : decode cL_cars 25 = .ok (.iconst 1, 1) := by decide +kernel
theorem dL_cars_26 : decode cL_cars 26 = .ok (.if_icmp .ne 228, 3) := by decide +kernel
theorem dL_cars_29 : decode cL_cars 29 = .ok (.aload_n 0, 1) := by decide +kernel
theorem dL_cars_30 : decode cL_cars 30 = .ok (.iconst 0, 1) := by decide +kernel
theorem dL_cars_31 : decode cL_cars 31 = .ok (.bipush 20, 2) := by decide +kernel
theorem dL_cars_33 : decode cL_cars 33 = .ok (.iconst 5, 1) := by decide +kernel
theorem dL_cars_34 : decode cL_cars 34 = .ok (.iconst 2, 1) := by decide +kernel
theorem dL_cars_35 : decode cL_cars 35 = .ok (.invokevirtual 23, 3) := by decide +kernel
theorem dL_cars_38 : decode cL_cars 38 = .ok (.ifCond .ne 216, 3) := by decide +kernel
theorem dL_cars_41 : decode cL_cars 41 = .ok (.aload_n 0, 1) := by decide +kernel
theorem dL_cars_42 : decode cL_cars 42 = .ok (.iconst 0, 1) := by decide +kernel
theorem dL_cars_43 : decode cL_cars 43 = .ok (.invokevirtual 48, 3) := by decide +kernel
theorem dL_cars_46 : decode cL_cars 46 = .ok (.iconst 5, 1) := by decide +kernel
theorem dL_cars_47 : decode cL_cars 47 = .ok (.if_icmp .ne 207, 3) := by decide +kernel
theorem dL_cars_50 : decode cL_cars 50 = .ok (.aload_n 0, 1) := by decide +kernel
theorem dL_cars_51 : decode cL_cars 51 = .ok (.iconst 1, 1) := by decide +kernel
theorem dL_cars_52 : decode cL_cars 52 = .ok (.iconst 3, 1) := by decide +kernel
theorem dL_cars_53 : decode cL_cars 53 = .ok (.bipush 32, 2) := by decide +kernel
theorem dL_cars_55 : decode cL_cars 55 = .ok (.iconst 1, 1) := by decide +kernel
theorem dL_cars_56 : decode cL_cars 56 = .ok (.invokevirtual 23, 3) := by decide +kernel
theorem dL_cars_59 : decode cL_cars 59 = .ok (.ifCond .ne 195, 3) := by decide +kernel
theorem dL_cars_62 : decode cL_cars 62 = .ok (.aload_n 0, 1) := by decide +kernel
theorem dL_cars_63 : decode cL_cars 63 = .ok (.iconst 1, 1) := by decide +kernel
theorem dL_cars_64 : decode cL_cars 64 = .ok (.invokevirtual 48, 3) := by decide +kernel
theorem dL_cars_67 : decode cL_cars 67 = .ok (.iconst 3, 1) := by decide +kernel
theorem dL_cars_68 : decode cL_cars 68 = .ok (.if_icmp .ne 186, 3) := by decide +kernel
theorem dL_cars_71 : decode cL_cars 71 = .ok (.aload_n 0, 1) := by decide +kernel
theorem dL_cars_72 : decode cL_cars 72 = .ok (.invokevirtual 93, 3) := by decide +kernel
theorem dL_cars_75 : decode cL_cars 75 = .ok (.ifCond .eq 179, 3) := by decide +kernel
theorem dL_cars_78 : decode cL_cars 78 = .ok (.aload_n 0, 1) := by decide +kernel
theorem dL_cars_79 : decode cL_cars 79 = .ok (.iconst 1, 1) := by decide +kernel
theorem dL_cars_80 : decode cL_cars 80 = .ok (.invokevirtual 36, 3) := by decide +kernel
theorem dL_cars_83 : decode cL_cars 83 = .ok (.bipush 18, 2) := by decide +kernel
theorem dL_cars_85 : decode cL_cars 85 = .ok (.if_icmp .ne 169, 3) := by decide +kernel
theorem dL_cars_88 : decode cL_cars 88 = .ok (.aload_n 0, 1) := by decide +kernel
theorem dL_cars_89 : decode cL_cars 89 = .ok (.iconst 0, 1) := by decide +kernel
theorem dL_cars_90 : decode cL_cars 90 = .ok (.invokevirtual 39, 3) := by decide +kernel
theorem dL_cars_93 : decode cL_cars 93 = .ok (.iconst 5, 1) := by decide +kernel
theorem dL_cars_94 : decode cL_cars 94 = .ok (.if_icmp .ne 160, 3) := by decide +kernel
theorem dL_cars_97 : decode cL_cars 97 = .ok (.aload_n 0, 1) := by decide +kernel
theorem dL_cars_98 : decode cL_cars 98 = .ok (.iconst 1, 1) := by decide +kernel
theorem dL_cars_99 : decode cL_cars 99 = .ok (.invokevirtual 39, 3) := by decide +kernel
theorem dL_cars_102 : decode cL_cars 102 = .ok (.ifCond .ne 152, 3) := by decide +kernel
theorem dL_cars_105 : decode cL_cars 105 = .ok (.aload_n 0, 1) := by decide +kernel
theorem dL_cars_106 : decode cL_cars 106 = .ok (.iconst 1, 1) := by decide +kernel
theorem dL_cars_107 : decode cL_cars 107 = .ok (.invokevirtual 42, 3) := by decide +kernel
theorem dL_cars_110 : decode cL_cars 110 = .ok (.ifCond .ne 144, 3) := by decide +kernel
theorem dL_cars_113 : decode cL_cars 113 = .ok (.aload_n 0, 1) := by decide +kernel
theorem dL_cars_114 : decode cL_cars 114 = .ok (.iconst 1, 1) := by decide +kernel
theorem dL_cars_115 : decode cL_cars 115 = .ok (.invokevirtual 48, 3) := by decide +kernel
theorem dL_cars_118 : decode cL_cars 118 = .ok (.ifCond .ne 136, 3) := by decide +kernel
theorem dL_cars_121 : decode cL_cars 121 = .ok (.aload_n 0, 1) := by decide +kernel
theorem dL_cars_122 : decode cL_cars 122 = .ok (.iconst 1, 1) := by decide +kernel
theorem dL_cars_123 : decode cL_cars 123 = .ok (.invokevirtual 45, 3) := by decide +kernel
theorem dL_cars_126 : decode cL_cars 126 = .ok (.ifCond .ne 128, 3) := by decide +kernel
theorem dL_cars_129 : decode cL_cars 129 = .ok (.aload_n 0, 1) := by decide +kernel
theorem dL_cars_130 : decode cL_cars 130 = .ok (.invokevirtual 93, 3) := by decide +kernel
theorem dL_cars_133 : decode cL_cars 133 = .ok (.ifCond .eq 121, 3) := by decide +kernel
theorem dL_cars_136 : decode cL_cars 136 = .ok (.aload_n 0, 1) := by decide +kernel
theorem dL_cars_137 : decode cL_cars 137 = .ok (.iconst 0, 1) := by decide +kernel
theorem dL_cars_138 : decode cL_cars 138 = .ok (.invokevirtual 48, 3) := by decide +kernel
theorem dL_cars_141 : decode cL_cars 141 = .ok (.iconst 2, 1) := by decide +kernel
theorem dL_cars_142 : decode cL_cars 142 = .ok (.if_icmp .ne 112, 3) := by decide +kernel
theorem dL_cars_145 : decode cL_cars 145 = .ok (.aload_n 0, 1) := by decide +kernel
theorem dL_cars_146 : decode cL_cars 146 = .ok (.iconst 0, 1) := by decide +kernel
theorem dL_cars_147 : decode cL_cars 147 = .ok (.invokevirtual 54, 3) := by decide +kernel
theorem dL_cars_150 : decode cL_cars 150 = .ok (.iconst 2, 1) := by decide +kernel
theorem dL_cars_151 : decode cL_cars 151 = .ok (.if_icmp .ne 103, 3) := by decide +kernel
theorem dL_cars_154 : decode cL_cars 154 = .ok (.aload_n 0, 1) := by decide +kernel
theorem dL_cars_155 : decode cL_cars 155 = .ok (.iconst 0, 1) := by decide +kernel
theorem dL_cars_156 : decode cL_cars 156 = .ok (.iconst 1, 1) := by decide +kernel
theorem dL_cars_157 : decode cL_cars 157 = .ok (.invokevirtual 30, 3) := by decide +kernel
theorem dL_cars_160 : decode cL_cars 160 = .ok (.iconst 5, 1) := by decide +kernel
theorem dL_cars_161 : decode cL_cars 161 = .ok (.if_icmp .ne 93, 3) := by decide +kernel
theorem dL_cars_164 : decode cL_cars 164 = .ok (.aload_n 0, 1) := by decide +kernel
theorem dL_cars_165 : decode cL_cars 165 = .ok (.iconst 0, 1) := by decide +kernel
theorem dL_cars_166 : decode cL_cars 166 = .ok (.invokevirtual 48, 3) := by decide +kernel
theorem dL_cars_169 : decode cL_cars 169 = .ok (.iconst 1, 1) := by decide +kernel
theorem dL_cars_170 : decode cL_cars 170 = .ok (.if_icmp .ne 84, 3) := by decide +kernel
theorem dL_cars_173 : decode cL_cars 173 = .ok (.aload_n 0, 1) := by decide +kernel
theorem dL_cars_174 : decode cL_cars 174 = .ok (.iconst 0, 1) := by decide +kernel
theorem dL_cars_175 : decode cL_cars 175 = .ok (.invokevirtual 45, 3) := by decide +kernel
theorem dL_cars_178 : decode cL_cars 178 = .ok (.iconst (-1), 1) := by decide +kernel
theorem dL_cars_179 : decode cL_cars 179 = .ok (.if_icmp .ne 75, 3) := by decide +kernel
theorem dL_cars_182 : decode cL_cars 182 = .ok (.aload_n 0, 1) := by decide +kernel
theorem dL_cars_183 : decode cL_cars 183 = .ok (.invokevirtual 93, 3) := by decide +kernel
theorem dL_cars_186 : decode cL_cars 186 = .ok (.ifCond .ne 68, 3) := by decide +kernel
theorem dL_cars_189 : decode cL_cars 189 = .ok (.aload_n 0, 1) := by decide +kernel
theorem dL_cars_190 : decode cL_cars 190 = .ok (.iconst 1, 1) := by decide +kernel
theorem dL_cars_191 : decode cL_cars 191 = .ok (.invokevirtual 36, 3) := by decide +kernel
theorem dL_cars_194 : decode cL_cars 194 = .ok (.iconst 3, 1) := by decide +kernel
theorem dL_cars_195 : decode cL_cars 195 = .ok (.if_icmp .ne 59, 3) := by decide +kernel
theorem dL_cars_198 : decode cL_cars 198 = .ok (.aload_n 0, 1) := by decide +kernel
theorem dL_cars_199 : decode cL_cars 199 = .ok (.iconst 0, 1) := by decide +kernel
theorem dL_cars_200 : decode cL_cars 200 = .ok (.invokevirtual 39, 3) := by decide +kernel
theorem dL_cars_203 : decode cL_cars 203 = .ok (.iconst 2, 1) := by decide +kernel
theorem dL_cars_204 : decode cL_cars 204 = .ok (.if_icmp .ne 50, 3) := by decide +kernel
theorem dL_cars_207 : decode cL_cars 207 = .ok (.aload_n 0, 1) := by decide +kernel
theorem dL_cars_208 : decode cL_cars 208 = .ok (.iconst 0, 1) := by decide +kernel
theorem dL_cars_209 : decode cL_cars 209 = .ok (.invokevirtual 42, 3) := by decide +kernel
theorem dL_cars_212 : decode cL_cars 212 = .ok (.ifCond .ne 42, 3) := by decide +kernel
theorem dL_cars_215 : decode cL_cars 215 = .ok (.aload_n 0, 1) := by decide +kernel
theorem dL_cars_216 : decode cL_cars 216 = .ok (.iconst 0, 1) := by decide +kernel
theorem dL_cars_217 : decode cL_cars 217 = .ok (.invokevirtual 45, 3) := by decide +kernel
theorem dL_cars_220 : decode cL_cars 220 = .ok (.iconst (-1), 1) := by decide +kernel
theorem dL_cars_221 : decode cL_cars 221 = .ok (.if_icmp .ne 33, 3) := by decide +kernel
theorem dL_cars_224 : decode cL_cars 224 = .ok (.aload_n 0, 1) := by decide +kernel
theorem dL_cars_225 : decode cL_cars 225 = .ok (.iconst 0, 1) := by decide +kernel
theorem dL_cars_226 : decode cL_cars 226 = .ok (.invokevirtual 48, 3) := by decide +kernel
theorem dL_cars_229 : decode cL_cars 229 = .ok (.ifCond .ne 25, 3) := by decide +kernel
theorem dL_cars_232 : decode cL_cars 232 = .ok (.aload_n 0, 1) := by decide +kernel
theorem dL_cars_233 : decode cL_cars 233 = .ok (.iconst 5, 1) := by decide +kernel
theorem dL_cars_234 : decode cL_cars 234 = .ok (.invokevirtual 36, 3) := by decide +kernel
theorem dL_cars_237 : decode cL_cars 237 = .ok (.ifCond .ne 17, 3) := by decide +kernel
theorem dL_cars_240 : decode cL_cars 240 = .ok (.aload_n 0, 1) := by decide +kernel
theorem dL_cars_241 : decode cL_cars 241 = .ok (.invokevirtual 79, 3) := by decide +kernel
theorem dL_cars_244 : decode cL_cars 244 = .ok (.ifCond .ne 10, 3) := by decide +kernel
theorem dL_cars_247 : decode cL_cars 247 = .ok (.aload_n 0, 1) := by decide +kernel
theorem dL_cars_248 : decode cL_cars 248 = .ok (.invokevirtual 93, 3) := by decide +kernel
theorem dL_cars_251 : decode cL_cars 251 = .ok (.ifCond .eq 5, 3) := by decide +kernel
theorem dL_cars_254 : decode cL_cars 254 = .ok (.iconst 0, 1) := by decide +kernel
theorem dL_cars_255 : decode cL_cars 255 = .ok (.ireturn, 1) := by decide +kernel
theorem dL_cars_256 : decode cL_cars 256 = .ok (.aload_n 0, 1) := by decide +kernel
theorem dL_cars_257 : decode cL_cars 257 = .ok (.iconst 0, 1) := by decide +kernel
theorem dL_cars_258 : decode cL_cars 258 = .ok (.iconst 4, 1) := by decide +kernel
theorem dL_cars_259 : decode cL_cars 259 = .ok (.invokevirtual 33, 3) := by decide +kernel
theorem dL_cars_262 : decode cL_cars 262 = .ok (.iconst 4, 1) := by decide +kernel
theorem dL_cars_263 : decode cL_cars 263 = .ok (.if_icmp .ne 185, 3) := by decide +kernel
theorem dL_cars_266 : decode cL_cars 266 = .ok (.aload_n 0, 1) := by decide +kernel
theorem dL_cars_267 : decode cL_cars 267 = .ok (.iconst 0, 1) := by decide +kernel
theorem dL_cars_268 : decode cL_cars 268 = .ok (.invokevirtual 42, 3) := by decide +kernel
theorem dL_cars_271 : decode cL_cars 271 = .ok (.iconst 4, 1) := by decide +kernel
theorem dL_cars_272 : decode cL_cars 272 = .ok (.if_icmp .ne 176, 3) := by decide +kernel
theorem dL_cars_275 : decode cL_cars 275 = .ok (.aload_n 0, 1) := by decide +kernel
theorem dL_cars_276 : decode cL_cars 276 = .ok (.iconst 0, 1) := by decide +kernel
theorem dL_cars_277 : decode cL_cars 277 = .ok (.invokevirtual 45, 3) := by decide +kernel
theorem dL_cars_280 : decode cL_cars 280 = .ok (.iconst 3, 1) := by decide +kernel
theorem dL_cars_281 : decode cL_cars 281 = .ok (.if_icmp .ne 167, 3) := by decide +kernel
theorem dL_cars_284 : decode cL_cars 284 = .ok (.aload_n 0, 1) := by decide +kernel
theorem dL_cars_285 : decode cL_cars 285 = .ok (.invokevirtual 93, 3) := by decide +kernel
theorem dL_cars_288 : decode cL_cars 288 = .ok (.ifCond .eq 160, 3) := by decide +kernel
theorem dL_cars_291 : decode cL_cars 291 = .ok (.aload_n 0, 1) := by decide +kernel
theorem dL_cars_292 : decode cL_cars 292 = .ok (.iconst 0, 1) := by decide +kernel
theorem dL_cars_293 : decode cL_cars 293 = .ok (.sipush 500, 3) := by decide +kernel
theorem dL_cars_296 : decode cL_cars 296 = .ok (.invokevirtual 33, 3) := by decide +kernel
theorem dL_cars_299 : decode cL_cars 299 = .ok (.sipush 504, 3) := by decide +kernel
theorem dL_cars_302 : decode cL_cars 302 = .ok (.if_icmp .ne 146, 3) := by decide +kernel
theorem dL_cars_305 : decode cL_cars 305 = .ok (.aload_n 0, 1) := by decide +kernel
theorem dL_cars_306 : decode cL_cars 306 = .ok (.iconst 0, 1) := by decide +kernel
theorem dL_cars_307 : decode cL_cars 307 = .ok (.invokevirtual 51, 3) := by decide +kernel
theorem dL_cars_310 : decode cL_cars 310 = .ok (.iconst 1, 1) := by decide +kernel
theorem dL_cars_311 : decode cL_cars 311 = .ok (.if_icmp .ne 137, 3) := by decide +kernel
theorem dL_cars_314 : decode cL_cars 314 = .ok (.aload_n 0, 1) := by decide +kernel
theorem dL_cars_315 : decode cL_cars 315 = .ok (.iconst 1, 1) := by decide +kernel
theorem dL_cars_316 : decode cL_cars 316 = .ok (.invokevirtual 36, 3) := by decide +kernel
theorem dL_cars_319 : decode cL_cars 319 = .ok (.iconst 2, 1) := by decide +kernel
theorem dL_cars_320 : decode cL_cars 320 = .ok (.if_icmp .ne 128, 3) := by decide +kernel
theorem dL_cars_323 : decode cL_cars 323 = .ok (.aload_n 0, 1) := by decide +kernel
theorem dL_cars_324 : decode cL_cars 324 = .ok (.iconst 0, 1) := by decide +kernel
theorem dL_cars_325 : decode cL_cars 325 = .ok (.invokevirtual 39, 3) := by decide +kernel
theorem dL_cars_328 : decode cL_cars 328 = .ok (.ifCond .ne 120, 3) := by decide +kernel
theorem dL_cars_331 : decode cL_cars 331 = .ok (.aload_n 0, 1) := by decide +kernel
theorem dL_cars_332 : decode cL_cars 332 = .ok (.iconst 0, 1) := by decide +kernel
theorem dL_cars_333 : decode cL_cars 333 = .ok (.invokevirtual 51, 3) := by decide +kernel
theorem dL_cars_336 : decode cL_cars 336 = .ok (.ifCond .ne 112, 3) := by decide +kernel
theorem dL_cars_339 : decode cL_cars 339 = .ok (.aload_n 0, 1) := by decide +kernel
theorem dL_cars_340 : decode cL_cars 340 = .ok (.iconst 0, 1) := by decide +kernel
theorem dL_cars_341 : decode cL_cars 341 = .ok (.invokevirtual 45, 3) := by decide +kernel
theorem dL_cars_344 : decode cL_cars 344 = .ok (.sipush 503, 3) := by decide +kernel
theorem dL_cars_347 : decode cL_cars 347 = .ok (.if_icmp .ne 101, 3) := by decide +kernel
theorem dL_cars_350 : decode cL_cars 350 = .ok (.aload_n 0, 1) := by decide +kernel
theorem dL_cars_351 : decode cL_cars 351 = .ok (.iconst 0, 1) := by decide +kernel
theorem dL_cars_352 : decode cL_cars 352 = .ok (.invokevirtual 27, 3) := by decide +kernel
theorem dL_cars_355 : decode cL_cars 355 = .ok (.ifCond .ne 93, 3) := by decide +kernel
theorem dL_cars_358 : decode cL_cars 358 = .ok (.aload_n 0, 1) := by decide +kernel
theorem dL_cars_359 : decode cL_cars 359 = .ok (.invokevirtual 108, 3) := by decide +kernel
theorem dL_cars_362 : decode cL_cars 362 = .ok (.iconst 1, 1) := by decide +kernel
theorem dL_cars_363 : decode cL_cars 363 = .ok (.if_icmp .ne 85, 3) := by decide +kernel
theorem dL_cars_366 : decode cL_cars 366 = .ok (.aload_n 0, 1) := by decide +kernel
theorem dL_cars_367 : decode cL_cars 367 = .ok (.iconst 0, 1) := by decide +kernel
theorem dL_cars_368 : decode cL_cars 368 = .ok (.invokevirtual 39, 3) := by decide +kernel
theorem dL_cars_371 : decode cL_cars 371 = .ok (.iconst (-1), 1) := by decide +kernel
theorem dL_cars_372 : decode cL_cars 372 = .ok (.if_icmp .ne 76, 3) := by decide +kernel
theorem dL_cars_375 : decode cL_cars 375 = .ok (.aload_n 0, 1) := by decide +kernel
theorem dL_cars_376 : decode cL_cars 376 = .ok (.iconst 1, 1) := by decide +kernel
theorem dL_cars_377 : decode cL_cars 377 = .ok (.invokevirtual 27, 3) := by decide +kernel
theorem dL_cars_380 : decode cL_cars 380 = .ok (.ifCond .ne 68, 3) := by decide +kernel
theorem dL_cars_383 : decode cL_cars 383 = .ok (.aload_n 0, 1) := by decide +kernel
theorem dL_cars_384 : decode cL_cars 384 = .ok (.invokevirtual 108, 3) := by decide +kernel
theorem dL_cars_387 : decode cL_cars 387 = .ok (.iconst 2, 1) := by decide +kernel
theorem dL_cars_388 : decode cL_cars 388 = .ok (.if_icmp .ne 60, 3) := by decide +kernel
theorem dL_cars_391 : decode cL_cars 391 = .ok (.aload_n 0, 1) := by decide +kernel
theorem dL_cars_392 : decode cL_cars 392 = .ok (.iconst 1, 1) := by decide +kernel
theorem dL_cars_393 : decode cL_cars 393 = .ok (.sipush 5000, 3) := by decide +kernel
theorem dL_cars_396 : decode cL_cars 396 = .ok (.iconst 1, 1) := by decide +kernel
theorem dL_cars_397 : decode cL_cars 397 = .ok (.sipush 500, 3) := by decide +kernel
theorem dL_cars_400 : decode cL_cars 400 = .ok (.invokevirtual 23, 3) := by decide +kernel
theorem dL_cars_403 : decode cL_cars 403 = .ok (.sipush (-4500), 3) := by decide +kernel
theorem dL_cars_406 : decode cL_cars 406 = .ok (.if_icmp .ne 42, 3) := by decide +kernel
theorem dL_cars_409 : decode cL_cars 409 = .ok (.aload_n 0, 1) := by decide +kernel
theorem dL_cars_410 : decode cL_cars 410 = .ok (.iconst 1, 1) := by decide +kernel
theorem dL_cars_411 : decode cL_cars 411 = .ok (.invokevirtual 27, 3) := by decide +kernel
theorem dL_cars_414 : decode cL_cars 414 = .ok (.sipush 5000, 3) := by decide +kernel
theorem dL_cars_417 : decode cL_cars 417 = .ok (.if_icmp .ne 31, 3) := by decide +kernel
theorem dL_cars_420 : decode cL_cars 420 = .ok (.aload_n 0, 1) := by decide +kernel
theorem dL_cars_421 : decode cL_cars 421 = .ok (.invokevirtual 108, 3) := by decide +kernel
theorem dL_cars_424 : decode cL_cars 424 = .ok (.iconst 2, 1) := by decide +kernel
theorem dL_cars_425 : decode cL_cars 425 = .ok (.if_icmp .ne 23, 3) := by decide +kernel
theorem dL_cars_428 : decode cL_cars 428 = .ok (.aload_n 0, 1) := by decide +kernel
theorem dL_cars_429 : decode cL_cars 429 = .ok (.invokevirtual 76, 3) := by decide +kernel
theorem dL_cars_432 : decode cL_cars 432 = .ok (.bipush 23, 2) := by decide +kernel
theorem dL_cars_434 : decode cL_cars 434 = .ok (.if_icmp .ne 14, 3) := by decide +kernel
theorem dL_cars_437 : decode cL_cars 437 = .ok (.aload_n 0, 1) := by decide +kernel
theorem dL_cars_438 : decode cL_cars 438 = .ok (.invokestatic 97, 3) := by decide +kernel
theorem dL_cars_441 : decode cL_cars 441 = .ok (.ifCond .eq 7, 3) := by decide +kernel
theorem dL_cars_444 : decode cL_cars 444 = .ok (.iconst 1, 1) := by decide +kernel
theorem dL_cars_445 : decode cL_cars 445 = .ok (.goto 4, 3) := by decide +kernel
theorem dL_cars_448 : decode cL_cars 448 = .ok (.iconst 0, 1) := by decide +kernel
theorem dL_cars_449 : decode cL_cars 449 = .ok (.ireturn, 1) := by decide +kernel
