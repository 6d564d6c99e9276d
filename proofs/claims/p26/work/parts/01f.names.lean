set_option maxRecDepth 20000 in
theorem ggL_shares_X0_init : GoodIn wsL_shares wsX0_init := goodIn_r _ [8, 9, 10, 11, 12, 13, 14, 15, 16, 17, 18, 19, 20, 21, 22, 23, 24, 257, 258, 259, 260, 261, 262, 263, 264, 265, 266, 267, 268, 269, 270, 271, 272] (by decide +kernel) (by decide +kernel)
set_option maxRecDepth 20000 in
theorem gL_shares_X0_init : GoodIn wsL_shares (wsX0_init) := ggL_shares_X0_init
set_option maxRecDepth 20000 in
theorem ggL_shares_X0_points : GoodIn wsL_shares wsX0_points := goodIn_r _ [28, 29, 257, 258, 259, 260, 261, 262, 263, 264, 265, 266, 267, 268, 269, 270, 271, 272] (by decide +kernel) (by decide +kernel)
set_option maxRecDepth 20000 in
theorem gL_shares_X0_points : GoodIn wsL_shares (wsV RL 69 RX0 yX0_points wsX0_points) := goodIn_app (goodIn_of _ (by decide +kernel)) ggL_shares_X0_points
set_option maxRecDepth 20000 in
theorem ggL_shares_X0_held : GoodIn wsL_shares wsX0_held := goodIn_r _ [33, 29, 19, 18, 34, 35, 36, 3, 37, 24, 38, 39, 40, 41, 21, 42, 43, 44, 45, 15, 46, 47, 48, 49, 50, 51, 52, 53, 17, 54, 55, 56, 57, 58, 13, 59, 60, 61, 62, 63, 64, 65, 14, 16, 66, 67, 68, 69, 70, 71, 72, 73, 74, 75, 76, 77, 22, 78, 79, 80, 81, 82, 83, 84, 85, 86, 87, 88, 89, 20, 90, 91, 92, 93, 94, 95, 96, 97, 98, 99, 100, 101, 102, 103, 104, 105, 106, 107, 108, 23, 109, 110, 111, 112, 113, 114, 115, 116, 117, 118, 119, 120, 257, 258, 259, 260, 261, 262, 263, 264, 265, 266, 267, 268, 269, 270, 271, 272] (by decide +kernel) (by decide +kernel)
set_option maxRecDepth 20000 in
theorem gL_shares_X0_held : GoodIn wsL_shares (wsV RL 79 RX0 yX0_held wsX0_held) := goodIn_app (goodIn_of _ (by decide +kernel)) ggL_shares_X0_held
set_option maxRecDepth 20000 in
theorem ggL_shares_X0_imbalance : GoodIn wsL_shares wsX0_imbalance := goodIn_r _ [124, 34, 35, 36, 3, 37, 24, 38, 39, 40, 41, 29, 19, 18, 21, 42, 43, 44, 45, 15, 46, 47, 48, 49, 50, 51, 52, 53, 17, 54, 55, 56, 57, 58, 13, 59, 60, 61, 62, 63, 64, 65, 14, 16, 66, 67, 68, 69, 70, 71, 72, 73, 74, 75, 76, 77, 22, 78, 79, 80, 81, 82, 83, 84, 85, 86, 87, 88, 89, 20, 90, 91, 92, 93, 94, 95, 96, 97, 98, 99, 100, 101, 102, 103, 104, 105, 106, 107, 108, 23, 109, 110, 111, 112, 113, 114, 115, 116, 117, 118, 119, 120, 257, 258, 259, 260, 261, 262, 263, 264, 265, 266, 267, 268, 269, 270, 271, 272] (by decide +kernel) (by decide +kernel)
set_option maxRecDepth 20000 in
theorem gL_shares_X0_imbalance : GoodIn wsL_shares (wsV RL 89 RX0 yX0_imbalance wsX0_imbalance) := goodIn_app (goodIn_of _ (by decide +kernel)) ggL_shares_X0_imbalance
set_option maxRecDepth 20000 in
theorem ggL_shares_X0_canBeReady : GoodIn wsL_shares wsX0_canBeReady := goodIn_r _ [128, 29, 15, 94, 95, 96, 3, 97, 62, 63, 64, 65, 14, 16, 46, 47, 48, 49, 55, 56, 57, 58, 13, 98, 99, 100, 101, 17, 54, 102, 103, 104, 59, 60, 61, 257, 258, 259, 260, 261, 262, 263, 264, 265, 266, 267, 268, 269, 270, 271, 272] (by decide +kernel) (by decide +kernel)
set_option maxRecDepth 20000 in
theorem gL_shares_X0_canBeReady : GoodIn wsL_shares (wsV RL 93 RX0 yX0_canBeReady wsX0_canBeReady) := goodIn_app (goodIn_of _ (by decide +kernel)) ggL_shares_X0_canBeReady
set_option maxRecDepth 20000 in
theorem ggL_shares_X0_fairLevel : GoodIn wsL_shares wsX0_fairLevel := goodIn_ca (goodIn_r _ [132, 22, 133, 134, 3, 135, 136, 137, 34, 35, 36, 37, 24, 38, 39, 40, 41, 29, 19, 18, 21, 42, 43, 44, 45, 15, 46, 47, 48, 49, 50, 51, 52, 53, 17, 54, 55, 56, 57, 58, 13, 59, 60, 61, 62, 63, 64, 65, 14, 16, 66, 67, 68, 69, 70, 71, 72, 73, 74, 75, 76, 77, 78, 79, 80, 81, 82, 83, 84, 85, 86, 87, 88, 89, 20, 90, 91, 92, 93, 94, 95, 96, 97, 98, 99, 100, 101, 102, 103, 104, 105, 106, 107, 108, 23, 109, 110, 111, 112, 113, 114, 115, 116, 117, 118, 119, 120, 138, 139, 140, 141, 142, 143, 144, 145, 257, 258, 259, 260, 261, 262, 263, 264, 265, 266, 267, 268, 269, 270, 271, 272] (by decide +kernel) (by decide +kernel)) (goodIn_sub (fun _ h => List.mem_cons_of_mem _ (List.mem_append_left _ (List.mem_append_left _ (List.mem_append_right _ h)))) (by decide +kernel))
set_option maxRecDepth 20000 in
theorem gL_shares_X0_fairLevel : GoodIn wsL_shares (wsV RL 57 RX0 yX0_fairLevel wsX0_fairLevel) := goodIn_app (goodIn_of _ (by decide +kernel)) ggL_shares_X0_fairLevel
set_option maxRecDepth 20000 in
theorem ggL_shares_X0_step : GoodIn wsL_shares wsX0_step := goodIn_ca (goodIn_r _ [149, 150, 54, 151, 152, 3, 153, 136, 137, 34, 35, 36, 37, 24, 38, 39, 40, 41, 29, 19, 18, 21, 42, 43, 44, 45, 15, 46, 47, 48, 49, 50, 51, 52, 53, 17, 55, 56, 57, 58, 13, 59, 60, 61, 62, 63, 64, 65, 14, 16, 66, 67, 68, 69, 70, 71, 72, 73, 74, 75, 76, 77, 22, 78, 79, 80, 81, 82, 83, 84, 85, 86, 87, 88, 89, 20, 90, 91, 92, 93, 94, 95, 96, 97, 98, 99, 100, 101, 102, 103, 104, 105, 106, 107, 108, 23, 109, 110, 111, 112, 113, 114, 115, 116, 117, 118, 119, 120, 154, 155, 156, 157, 257, 258, 259, 260, 261, 262, 263, 264, 265, 266, 267, 268, 269, 270, 271, 272] (by decide +kernel) (by decide +kernel)) (goodIn_sub (fun _ h => List.mem_cons_of_mem _ (List.mem_append_left _ (List.mem_append_left _ (List.mem_append_right _ h)))) (by decide +kernel))
set_option maxRecDepth 20000 in
theorem gL_shares_X0_step : GoodIn wsL_shares (wsV RL 36 RX0 yX0_step wsX0_step) := goodIn_app (goodIn_of _ (by decide +kernel)) ggL_shares_X0_step
set_option maxRecDepth 20000 in
theorem ggL_shares_X0_time : GoodIn wsL_shares wsX0_time := goodIn_r _ [161, 54, 257, 258, 259, 260, 261, 262, 263, 264, 265, 266, 267, 268, 269, 270, 271, 272] (by decide +kernel) (by decide +kernel)
set_option maxRecDepth 20000 in
theorem gL_shares_X0_time : GoodIn wsL_shares (wsV RL 73 RX0 yX0_time wsX0_time) := goodIn_app (goodIn_of _ (by decide +kernel)) ggL_shares_X0_time
set_option maxRecDepth 20000 in
theorem ggL_shares_L_act : GoodIn wsL_shares wsL_act := goodIn_ca (goodIn_ca (goodIn_ca (goodIn_r _ [165, 166, 167, 168, 4, 169, 5, 170, 171, 172, 3, 173, 174, 175, 29, 13, 14, 15, 133, 134, 135, 136, 137, 151, 152, 153, 176, 177, 178, 179, 22, 180, 181, 182, 183, 23, 184, 185, 186, 187, 24, 188, 189, 190, 191, 16, 17, 54, 192, 193, 194, 195, 196, 197, 198, 199, 200, 201, 94, 95, 96, 97, 62, 63, 64, 65, 46, 47, 48, 49, 55, 56, 57, 58, 98, 99, 100, 101, 102, 103, 104, 59, 60, 61, 202, 203, 204, 205, 206, 207, 208, 209, 210, 211, 212, 213, 214, 215, 216, 217, 218, 146, 147, 148, 149, 150, 34, 35, 36, 37, 38, 39, 40, 41, 19, 18, 21, 42, 43, 44, 45, 50, 51, 52, 53, 66, 67, 68, 69, 70, 71, 72, 73, 74, 75, 76, 77, 78, 79, 80, 81, 82, 83, 84, 85, 86, 87, 88, 89, 20, 90, 91, 92, 93, 105, 106, 107, 108, 109, 110, 111, 112, 113, 114, 115, 116, 117, 118, 119, 120, 154, 155, 156, 157, 219, 220, 221, 222, 223, 224, 225, 226, 227, 228, 229, 230, 231, 232, 233, 234, 235, 236, 237, 238, 239, 240, 241, 242, 129, 130, 131, 132, 138, 139, 140, 141, 142, 143, 144, 145, 257, 258, 259, 260, 261, 262, 263, 264, 265, 266, 267, 268, 269, 270, 271, 272] (by decide +kernel) (by decide +kernel)) (goodIn_sub (fun _ h => List.mem_cons_of_mem _ (List.mem_append_left _ (List.mem_append_right _ h))) (by decide +kernel))) (goodIn_sub (fun _ h => List.mem_cons_of_mem _ (List.mem_append_left _ (List.mem_append_left _ (List.mem_append_right _ h)))) (by decide +kernel))) (goodIn_sub (fun _ h => List.mem_cons_of_mem _ (List.mem_append_right _ h)) (by decide +kernel))
set_option maxRecDepth 20000 in
theorem gL_shares_L_act : GoodIn wsL_shares (va_wsS RL 83 yL_act wsL_act) := goodIn_app (goodIn_of _ (by decide +kernel)) ggL_shares_L_act
set_option maxRecDepth 20000 in
theorem ggL_shares_X0_point : GoodIn wsL_shares wsX0_point := goodIn_ca (goodIn_ca (goodIn_r _ [173, 174, 175, 29, 13, 14, 15, 133, 134, 3, 135, 136, 137, 151, 152, 153, 257, 258, 259, 260, 261, 262, 263, 264, 265, 266, 267, 268, 269, 270, 271, 272] (by decide +kernel) (by decide +kernel)) (goodIn_sub (fun _ h => List.mem_cons_of_mem _ (List.mem_append_left _ (List.mem_append_right _ h))) (by decide +kernel))) (goodIn_sub (fun _ h => List.mem_cons_of_mem _ (List.mem_append_left _ (List.mem_append_left _ (List.mem_append_right _ h)))) (by decide +kernel))
set_option maxRecDepth 20000 in
theorem gL_shares_X0_point : GoodIn wsL_shares (wsV RL 7 RX0 yX0_point wsX0_point) := goodIn_app (goodIn_of _ (by decide +kernel)) ggL_shares_X0_point
set_option maxRecDepth 20000 in
theorem ggL_shares_X0_need : GoodIn wsL_shares wsX0_need := goodIn_ca (goodIn_r _ [222, 15, 192, 193, 194, 3, 195, 196, 197, 29, 257, 258, 259, 260, 261, 262, 263, 264, 265, 266, 267, 268, 269, 270, 271, 272] (by decide +kernel) (by decide +kernel)) (goodIn_sub (fun _ h => List.mem_cons_of_mem _ (List.mem_append_right _ h)) (by decide +kernel))
set_option maxRecDepth 20000 in
theorem gL_shares_X0_need : GoodIn wsL_shares (wsV RL 39 RX0 yX0_need wsX0_need) := goodIn_app (goodIn_of _ (by decide +kernel)) ggL_shares_X0_need
set_option maxRecDepth 20000 in
theorem ggL_shares_X0_left : GoodIn wsL_shares wsX0_left := goodIn_ca (goodIn_r _ [226, 192, 193, 194, 3, 195, 196, 197, 29, 198, 199, 200, 201, 15, 98, 99, 100, 101, 17, 54, 102, 103, 48, 104, 257, 258, 259, 260, 261, 262, 263, 264, 265, 266, 267, 268, 269, 270, 271, 272] (by decide +kernel) (by decide +kernel)) (goodIn_sub (fun _ h => List.mem_cons_of_mem _ (List.mem_append_right _ h)) (by decide +kernel))
set_option maxRecDepth 20000 in
theorem gL_shares_X0_left : GoodIn wsL_shares (wsV RL 42 RX0 yX0_left wsX0_left) := goodIn_app (goodIn_of _ (by decide +kernel)) ggL_shares_X0_left
set_option maxRecDepth 20000 in
theorem ggL_shares_X0_reach : GoodIn wsL_shares wsX0_reach := goodIn_ca (goodIn_r _ [234, 192, 193, 194, 3, 195, 196, 197, 29, 42, 43, 44, 45, 15, 46, 47, 48, 49, 50, 51, 52, 53, 17, 54, 55, 56, 57, 58, 13, 59, 60, 61, 62, 63, 64, 65, 14, 16, 257, 258, 259, 260, 261, 262, 263, 264, 265, 266, 267, 268, 269, 270, 271, 272] (by decide +kernel) (by decide +kernel)) (goodIn_sub (fun _ h => List.mem_cons_of_mem _ (List.mem_append_right _ h)) (by decide +kernel))
set_option maxRecDepth 20000 in
theorem gL_shares_X0_reach : GoodIn wsL_shares (wsV RL 48 RX0 yX0_reach wsX0_reach) := goodIn_app (goodIn_of _ (by decide +kernel)) ggL_shares_X0_reach
set_option maxRecDepth 100000 in
theorem hL_shares_L_refuses_c : GoodIn wsL_shares [Cond.code yL_refuses cL_refuses 15 (some .boolean)] := gi_1 245 rfl (by decide +kernel)
set_option maxRecDepth 100000 in
theorem hL_shares_L_refuses_0 : GoodIn wsL_shares wsL_refuses_r1 := goodIn_r wsL_refuses_r1 [246, 169, 4, 25, 26, 27, 3, 28, 29, 158, 159, 160, 161, 54, 247, 248, 249, 250, 150, 30, 31, 32, 33, 19] (by decide +kernel) (by decide +kernel)
set_option maxRecDepth 100000 in
theorem hL_shares_L_refuses_1 : GoodIn wsL_shares wsL_refuses_r2 := goodIn_r wsL_refuses_r2 [18, 34, 35, 36, 37, 24, 38, 39, 40, 41, 21, 42, 43, 44, 45, 15, 46, 47, 48, 49, 50, 51, 52, 53] (by decide +kernel) (by decide +kernel)
set_option maxRecDepth 100000 in
theorem hL_shares_L_refuses_2 : GoodIn wsL_shares wsL_refuses_r3 := goodIn_r wsL_refuses_r3 [17, 55, 56, 57, 58, 13, 59, 60, 61, 62, 63, 64, 65, 14, 16, 66, 67, 68, 69, 70, 71, 72, 73, 74] (by decide +kernel) (by decide +kernel)
set_option maxRecDepth 100000 in
theorem hL_shares_L_refuses_3 : GoodIn wsL_shares wsL_refuses_r4 := goodIn_r wsL_refuses_r4 [75, 76, 77, 22, 78, 79, 80, 81, 82, 83, 84, 85, 86, 87, 88, 89, 20, 90, 91, 92, 93, 94, 95, 96] (by decide +kernel) (by decide +kernel)
set_option maxRecDepth 100000 in
theorem hL_shares_L_refuses_4 : GoodIn wsL_shares wsL_refuses_r5 := goodIn_r wsL_refuses_r5 [97, 98, 99, 100, 101, 102, 103, 104, 105, 106, 107, 108, 23, 109, 110, 111, 112, 113, 114, 115, 116, 117, 118, 119] (by decide +kernel) (by decide +kernel)
set_option maxRecDepth 100000 in
theorem hL_shares_L_refuses_5 : GoodIn wsL_shares wsL_refuses_r6 := goodIn_r wsL_refuses_r6 [120, 162, 163, 164, 165, 166, 167, 168, 5, 170, 171, 172, 173, 174, 175, 133, 134, 135, 136, 137, 151, 152, 153, 176] (by decide +kernel) (by decide +kernel)
set_option maxRecDepth 100000 in
theorem hL_shares_L_refuses_6 : GoodIn wsL_shares wsL_refuses_r7 := goodIn_r wsL_refuses_r7 [177, 178, 179, 180, 181, 182, 183, 184, 185, 186, 187, 188, 189, 190, 191, 192, 193, 194, 195, 196, 197, 198, 199, 200] (by decide +kernel) (by decide +kernel)
set_option maxRecDepth 100000 in
theorem hL_shares_L_refuses_7 : GoodIn wsL_shares wsL_refuses_r8 := goodIn_r wsL_refuses_r8 [201, 202, 203, 204, 205, 206, 207, 208, 209, 210, 211, 212, 213, 214, 215, 216, 217, 218, 146, 147, 148, 149, 154, 155] (by decide +kernel) (by decide +kernel)
set_option maxRecDepth 100000 in
theorem hL_shares_L_refuses_8 : GoodIn wsL_shares wsL_refuses_r9 := goodIn_r wsL_refuses_r9 [156, 157, 219, 220, 221, 222, 223, 224, 225, 226, 227, 228, 229, 230, 231, 232, 233, 234, 235, 236, 237, 238, 239, 240] (by decide +kernel) (by decide +kernel)
set_option maxRecDepth 100000 in
theorem hL_shares_L_refuses_9 : GoodIn wsL_shares wsL_refuses_r10 := goodIn_r wsL_refuses_r10 [241, 242, 129, 130, 131, 132, 138, 139, 140, 141, 142, 143, 144, 145] (by decide +kernel) (by decide +kernel)
set_option maxRecDepth 100000 in
theorem hL_shares_L_refuses_x : GoodIn wsL_shares wsX00 := goodIn_r wsX00 [257, 258, 259, 260, 261, 262, 263, 264, 265, 266, 267, 268, 269, 270, 271, 272] (by decide +kernel) (by decide +kernel)
set_option maxRecDepth 20000 in
theorem ggL_shares_L_refuses : GoodIn wsL_shares wsL_refuses := goodIn_ca (goodIn_ca (goodIn_ca ((gi_c hL_shares_L_refuses_c (goodIn_app (goodIn_app hL_shares_L_refuses_0 (goodIn_app hL_shares_L_refuses_1 (goodIn_app hL_shares_L_refuses_2 (goodIn_app hL_shares_L_refuses_3 (goodIn_app hL_shares_L_refuses_4 (goodIn_app hL_shares_L_refuses_5 (goodIn_app hL_shares_L_refuses_6 (goodIn_app hL_shares_L_refuses_7 (goodIn_app hL_shares_L_refuses_8 hL_shares_L_refuses_9))))))))) hL_shares_L_refuses_x))) (goodIn_sub (fun _ h => List.mem_cons_of_mem _ (List.mem_append_left _ (List.mem_append_right _ h))) (by decide +kernel))) (goodIn_sub (fun _ h => List.mem_cons_of_mem _ (List.mem_append_left _ (List.mem_append_left _ (List.mem_append_right _ h)))) (by decide +kernel))) (goodIn_sub (fun _ h => List.mem_cons_of_mem _ (List.mem_append_right _ h)) (by decide +kernel))
set_option maxRecDepth 20000 in
theorem gL_shares_L_refuses : GoodIn wsL_shares (va_wsS RL 97 yL_refuses wsL_refuses) := goodIn_app (goodIn_of _ (by decide +kernel)) ggL_shares_L_refuses
set_option maxRecDepth 20000 in
theorem ggL_shares_X0_plugIn : GoodIn wsL_shares wsX0_plugIn := goodIn_ca (goodIn_ca (goodIn_ca (goodIn_r _ [191, 174, 175, 15, 16, 17, 54, 192, 193, 194, 3, 195, 196, 197, 29, 151, 152, 153, 136, 137, 198, 199, 200, 201, 94, 95, 96, 97, 62, 63, 64, 65, 14, 46, 47, 48, 49, 55, 56, 57, 58, 13, 98, 99, 100, 101, 102, 103, 104, 59, 60, 61, 257, 258, 259, 260, 261, 262, 263, 264, 265, 266, 267, 268, 269, 270, 271, 272] (by decide +kernel) (by decide +kernel)) (goodIn_sub (fun _ h => List.mem_cons_of_mem _ (List.mem_append_left _ (List.mem_append_right _ h))) (by decide +kernel))) (goodIn_sub (fun _ h => List.mem_cons_of_mem _ (List.mem_append_right _ h)) (by decide +kernel))) (goodIn_sub (fun _ h => List.mem_cons_of_mem _ (List.mem_append_left _ (List.mem_append_left _ (List.mem_append_right _ h)))) (by decide +kernel))
set_option maxRecDepth 20000 in
theorem gL_shares_X0_plugIn : GoodIn wsL_shares (wsV RL 23 RX0 yX0_plugIn wsX0_plugIn) := goodIn_app (goodIn_of _ (by decide +kernel)) ggL_shares_X0_plugIn
set_option maxRecDepth 20000 in
theorem ggL_shares_L_gives : GoodIn wsL_shares wsL_gives := goodIn_ca (goodIn_r _ [253, 235, 236, 237, 3, 238, 19, 192, 193, 194, 195, 196, 197, 29, 34, 35, 36, 37, 24, 38, 39, 40, 41, 18, 21, 42, 43, 44, 45, 15, 46, 47, 48, 49, 50, 51, 52, 53, 17, 54, 55, 56, 57, 58, 13, 59, 60, 61, 62, 63, 64, 65, 14, 16, 66, 67, 68, 69, 70, 71, 72, 73, 74, 75, 76, 77, 22, 78, 79, 80, 81, 82, 83, 84, 85, 86, 87, 88, 89, 20, 90, 91, 92, 93, 94, 95, 96, 97, 98, 99, 100, 101, 102, 103, 104, 105, 106, 107, 108, 23, 109, 110, 111, 112, 113, 114, 115, 116, 117, 118, 119, 120, 257, 258, 259, 260, 261, 262, 263, 264, 265, 266, 267, 268, 269, 270, 271, 272] (by decide +kernel) (by decide +kernel)) (goodIn_sub (fun _ h => List.mem_cons_of_mem _ (List.mem_append_right _ h)) (by decide +kernel))
set_option maxRecDepth 20000 in
theorem gL_shares_L_gives : GoodIn wsL_shares (va_wsS RL 101 yL_gives wsL_gives) := goodIn_app (goodIn_of _ (by decide +kernel)) ggL_shares_L_gives
set_option maxRecDepth 20000 in
theorem ggL_shares_L_loads : GoodIn wsL_shares wsL_loads := goodIn_ca (goodIn_r _ [256, 239, 240, 241, 3, 242, 21, 133, 134, 135, 136, 137, 34, 35, 36, 37, 24, 38, 39, 40, 41, 29, 19, 18, 42, 43, 44, 45, 15, 46, 47, 48, 49, 50, 51, 52, 53, 17, 54, 55, 56, 57, 58, 13, 59, 60, 61, 62, 63, 64, 65, 14, 16, 66, 67, 68, 69, 70, 71, 72, 73, 74, 75, 76, 77, 22, 78, 79, 80, 81, 82, 83, 84, 85, 86, 87, 88, 89, 20, 90, 91, 92, 93, 94, 95, 96, 97, 98, 99, 100, 101, 102, 103, 104, 105, 106, 107, 108, 23, 109, 110, 111, 112, 113, 114, 115, 116, 117, 118, 119, 120, 121, 122, 123, 124, 257, 258, 259, 260, 261, 262, 263, 264, 265, 266, 267, 268, 269, 270, 271, 272] (by decide +kernel) (by decide +kernel)) (goodIn_sub (fun _ h => List.mem_cons_of_mem _ (List.mem_append_left _ (List.mem_append_left _ (List.mem_append_right _ h)))) (by decide +kernel))
set_option maxRecDepth 20000 in
theorem gL_shares_L_loads : GoodIn wsL_shares (va_wsS RL 105 yL_loads wsL_loads) := goodIn_app (goodIn_of _ (by decide +kernel)) ggL_shares_L_loads
set_option maxRecDepth 20000 in
theorem ggL_shares_X0_rule : GoodIn wsL_shares wsX0_rule := goodIn_ca (goodIn_r _ [187, 24, 151, 152, 3, 153, 136, 137, 257, 258, 259, 260, 261, 262, 263, 264, 265, 266, 267, 268, 269, 270, 271, 272] (by decide +kernel) (by decide +kernel)) (goodIn_sub (fun _ h => List.mem_cons_of_mem _ (List.mem_append_left _ (List.mem_append_left _ (List.mem_append_right _ h)))) (by decide +kernel))
set_option maxRecDepth 20000 in
theorem gL_shares_X0_rule : GoodIn wsL_shares (wsV RL 20 RX0 yX0_rule wsX0_rule) := goodIn_app (goodIn_of _ (by decide +kernel)) ggL_shares_X0_rule
set_option maxRecDepth 20000 in
theorem ggL_shares_X0_balance : GoodIn wsL_shares wsX0_balance := goodIn_ca (goodIn_r _ [183, 23, 151, 152, 3, 153, 136, 137, 257, 258, 259, 260, 261, 262, 263, 264, 265, 266, 267, 268, 269, 270, 271, 272] (by decide +kernel) (by decide +kernel)) (goodIn_sub (fun _ h => List.mem_cons_of_mem _ (List.mem_append_left _ (List.mem_append_left _ (List.mem_append_right _ h)))) (by decide +kernel))
set_option maxRecDepth 20000 in
theorem gL_shares_X0_balance : GoodIn wsL_shares (wsV RL 16 RX0 yX0_balance wsX0_balance) := goodIn_app (goodIn_of _ (by decide +kernel)) ggL_shares_X0_balance
set_option maxRecDepth 20000 in
theorem ggL_shares_X0_taken : GoodIn wsL_shares wsX0_taken := goodIn_r _ [250, 150, 257, 258, 259, 260, 261, 262, 263, 264, 265, 266, 267, 268, 269, 270, 271, 272] (by decide +kernel) (by decide +kernel)
set_option maxRecDepth 20000 in
theorem gL_shares_X0_taken : GoodIn wsL_shares (wsV RL 76 RX0 yX0_taken wsX0_taken) := goodIn_app (goodIn_of _ (by decide +kernel)) ggL_shares_X0_taken
set_option maxRecDepth 20000 in
theorem ggL_shares_X0_laxity : GoodIn wsL_shares wsX0_laxity := goodIn_ca (goodIn_ca (goodIn_r _ [230, 192, 193, 194, 3, 195, 196, 197, 29, 207, 208, 209, 210, 174, 175, 198, 199, 200, 201, 15, 94, 95, 96, 97, 62, 63, 64, 65, 14, 16, 46, 47, 48, 49, 55, 56, 57, 58, 13, 98, 99, 100, 101, 17, 54, 102, 103, 104, 59, 60, 61, 257, 258, 259, 260, 261, 262, 263, 264, 265, 266, 267, 268, 269, 270, 271, 272] (by decide +kernel) (by decide +kernel)) (goodIn_sub (fun _ h => List.mem_cons_of_mem _ (List.mem_append_right _ h)) (by decide +kernel))) (goodIn_sub (fun _ h => List.mem_cons_of_mem _ (List.mem_append_left _ (List.mem_append_right _ h))) (by decide +kernel))
set_option maxRecDepth 20000 in
theorem gL_shares_X0_laxity : GoodIn wsL_shares (wsV RL 45 RX0 yX0_laxity wsX0_laxity) := goodIn_app (goodIn_of _ (by decide +kernel)) ggL_shares_X0_laxity
set_option maxRecDepth 20000 in
theorem ggL_shares_X0_fuse : GoodIn wsL_shares wsX0_fuse := goodIn_ca (goodIn_r _ [179, 22, 133, 134, 3, 135, 136, 137, 151, 152, 153, 257, 258, 259, 260, 261, 262, 263, 264, 265, 266, 267, 268, 269, 270, 271, 272] (by decide +kernel) (by decide +kernel)) (goodIn_sub (fun _ h => List.mem_cons_of_mem _ (List.mem_append_left _ (List.mem_append_left _ (List.mem_append_right _ h)))) (by decide +kernel))
set_option maxRecDepth 20000 in
theorem gL_shares_X0_fuse : GoodIn wsL_shares (wsV RL 13 RX0 yX0_fuse wsX0_fuse) := goodIn_app (goodIn_of _ (by decide +kernel)) ggL_shares_X0_fuse
theorem dL_shares_0 : decode cL_shares 0 = .ok (.new 8, 3) := by decide +kernel
theorem dL_shares_3 : decode cL_shares 3 = .ok (.dup, 1) := by decide +kernel
theorem dL_shares_4 : decode cL_shares 4 = .ok (.invokespecial 92, 3) := by decide +kernel
theorem dL_shares_7 : decode cL_shares 7 = .ok (.astore_n 0, 1) := by decide +kernel
theorem dL_shares_8 : decode cL_shares 8 = .ok (.aload_n 0, 1) := by decide +kernel
theorem dL_shares_9 : decode cL_shares 9 = .ok (.invokevirtual 69, 3) := by decide +kernel
theorem dL_shares_12 : decode cL_shares 12 = .ok (.ifCond .ne 200, 3) := by decide +kernel
theorem dL_shares_15 : decode cL_shares 15 = .ok (.aload_n 0, 1) := by decide +kernel
theorem dL_shares_16 : decode cL_shares 16 = .ok (.invokevirtual 79, 3) := by decide +kernel
theorem dL_shares_19 : decode cL_shares 19 = .ok (.ifCond .ne 193, 3) := by decide +kernel
theorem dL_shares_22 : decode cL_shares 22 = .ok (.aload_n 0, 1) := by decide +kernel
theorem dL_shares_23 : decode cL_shares 23 = .ok (.invokevirtual 89, 3) := by decide +kernel
theorem dL_shares_26 : decode cL_shares 26 = .ok (.ifCond .ne 186, 3) := by decide +kernel
theorem dL_shares_29 : decode cL_shares 29 = .ok (.aload_n 0, 1) := by decide +kernel
theorem dL_shares_30 : decode cL_shares 30 = .ok (.invokevirtual 93, 3) := by decide +kernel
theorem dL_shares_33 : decode cL_shares 33 = .ok (.ifCond .eq 179, 3) := by decide +kernel
theorem dL_shares_36 : decode cL_shares 36 = .ok (.aload_n 0, 1) := by decide +kernel
theorem dL_shares_37 : decode cL_shares 37 = .ok (.iconst 1, 1) := by decide +kernel
theorem dL_shares_38 : decode cL_shares 38 = .ok (.invokevirtual 57, 3) := by decide +kernel
theorem dL_shares_41 : decode cL_shares 41 = .ok (.iconst (-1), 1) := by decide +kernel
theorem dL_shares_42 : decode cL_shares 42 = .ok (.if_icmp .ne 170, 3) := by decide +kernel
theorem dL_shares_45 : decode cL_shares 45 = .ok (.aload_n 0, 1) := by decide +kernel
theorem dL_shares_46 : decode cL_shares 46 = .ok (.bipush 50, 2) := by decide +kernel
theorem dL_shares_48 : decode cL_shares 48 = .ok (.invokevirtual 36, 3) := by decide +kernel
theorem dL_shares_51 : decode cL_shares 51 = .ok (.ifCond .ne 161, 3) := by decide +kernel
theorem dL_shares_54 : decode cL_shares 54 = .ok (.aload_n 0, 1) := by decide +kernel
theorem dL_shares_55 : decode cL_shares 55 = .ok (.invokevirtual 73, 3) := by decide +kernel
theorem dL_shares_58 : decode cL_shares 58 = .ok (.bipush 50, 2) := by decide +kernel
theorem dL_shares_60 : decode cL_shares 60 = .ok (.if_icmp .ne 152, 3) := by decide +kernel
theorem dL_shares_63 : decode cL_shares 63 = .ok (.aload_n 0, 1) := by decide +kernel
theorem dL_shares_64 : decode cL_shares 64 = .ok (.iconst 5, 1) := by decide +kernel
theorem dL_shares_65 : decode cL_shares 65 = .ok (.iconst 0, 1) := by decide +kernel
theorem dL_shares_66 : decode cL_shares 66 = .ok (.iconst 0, 1) := by decide +kernel
theorem dL_shares_67 : decode cL_shares 67 = .ok (.iconst 0, 1) := by decide +kernel
theorem dL_shares_68 : decode cL_shares 68 = .ok (.iconst 0, 1) := by decide +kernel
theorem dL_shares_69 : decode cL_shares 69 = .ok (.invokestatic 83, 3) := by decide +kernel
theorem dL_shares_72 : decode cL_shares 72 = .ok (.ldc 62, 2) := by decide +kernel
theorem dL_shares_74 : decode cL_shares 74 = .ok (.if_icmp .ne 138, 3) := by decide +kernel
theorem dL_shares_77 : decode cL_shares 77 = .ok (.aload_n 0, 1) := by decide +kernel
theorem dL_shares_78 : decode cL_shares 78 = .ok (.iconst 0, 1) := by decide +kernel
theorem dL_shares_79 : decode cL_shares 79 = .ok (.bipush 16, 2) := by decide +kernel
theorem dL_shares_81 : decode cL_shares 81 = .ok (.invokevirtual 7, 3) := by decide +kernel
theorem dL_shares_84 : decode cL_shares 84 = .ok (.ifCond .ne 128, 3) := by decide +kernel
theorem dL_shares_87 : decode cL_shares 87 = .ok (.aload_n 0, 1) := by decide +kernel
theorem dL_shares_88 : decode cL_shares 88 = .ok (.iconst 0, 1) := by decide +kernel
theorem dL_shares_89 : decode cL_shares 89 = .ok (.bipush 32, 2) := by decide +kernel
theorem dL_shares_91 : decode cL_shares 91 = .ok (.invokevirtual 7, 3) := by decide +kernel
theorem dL_shares_94 : decode cL_shares 94 = .ok (.iconst 1, 1) := by decide +kernel
theorem dL_shares_95 : decode cL_shares 95 = .ok (.if_icmp .ne 117, 3) := by decide +kernel
theorem dL_shares_98 : decode cL_shares 98 = .ok (.aload_n 0, 1) := by decide +kernel
theorem dL_shares_99 : decode cL_shares 99 = .ok (.iconst 1, 1) := by decide +kernel
theorem dL_shares_100 : decode cL_shares 100 = .ok (.bipush 32, 2) := by decide +kernel
theorem dL_shares_102 : decode cL_shares 102 = .ok (.invokevirtual 7, 3) := by decide +kernel
theorem dL_shares_105 : decode cL_shares 105 = .ok (.iconst 2, 1) := by decide +kernel
theorem dL_shares_106 : decode cL_shares 106 = .ok (.if_icmp .ne 106, 3) := by decide +kernel
theorem dL_shares_109 : decode cL_shares 109 = .ok (.aload_n 0, 1) := by decide +kernel
theorem dL_shares_110 : decode cL_shares 110 = .ok (.iconst 3, 1) := by decide +kernel
theorem dL_shares_111 : decode cL_shares 111 = .ok (.bipush 20, 2) := by decide +kernel
theorem dL_shares_113 : decode cL_shares 113 = .ok (.invokevirtual 7, 3) := by decide +kernel
theorem dL_shares_116 : decode cL_shares 116 = .ok (.iconst 3, 1) := by decide +kernel
theorem dL_shares_117 : decode cL_shares 117 = .ok (.if_icmp .ne 95, 3) := by decide +kernel
theorem dL_shares_120 : decode cL_shares 120 = .ok (.aload_n 0, 1) := by decide +kernel
theorem dL_shares_121 : decode cL_shares 121 = .ok (.iconst 0, 1) := by decide +kernel
theorem dL_shares_122 : decode cL_shares 122 = .ok (.invokevirtual 39, 3) := by decide +kernel
theorem dL_shares_125 : decode cL_shares 125 = .ok (.iconst (-1), 1) := by decide +kernel
theorem dL_shares_126 : decode cL_shares 126 = .ok (.if_icmp .ne 86, 3) := by decide +kernel
theorem dL_shares_129 : decode cL_shares 129 = .ok (.aload_n 0, 1) := by decide +kernel
theorem dL_shares_130 : decode cL_shares 130 = .ok (.iconst 0, 1) := by decide +kernel
theorem dL_shares_131 : decode cL_shares 131 = .ok (.invokevirtual 42, 3) := by decide +kernel
theorem dL_shares_134 : decode cL_shares 134 = .ok (.iconst (-1), 1) := by decide +kernel
theorem dL_shares_135 : decode cL_shares 135 = .ok (.if_icmp .ne 77, 3) := by decide +kernel
theorem dL_shares_138 : decode cL_shares 138 = .ok (.aload_n 0, 1) := by decide +kernel
theorem dL_shares_139 : decode cL_shares 139 = .ok (.iconst 0, 1) := by decide +kernel
theorem dL_shares_140 : decode cL_shares 140 = .ok (.invokevirtual 48, 3) := by decide +kernel
theorem dL_shares_143 : decode cL_shares 143 = .ok (.ifCond .ne 69, 3) := by decide +kernel
theorem dL_shares_146 : decode cL_shares 146 = .ok (.aload_n 0, 1) := by decide +kernel
theorem dL_shares_147 : decode cL_shares 147 = .ok (.bipush 11, 2) := by decide +kernel
theorem dL_shares_149 : decode cL_shares 149 = .ok (.iconst 0, 1) := by decide +kernel
theorem dL_shares_150 : decode cL_shares 150 = .ok (.iconst 0, 1) := by decide +kernel
theorem dL_shares_151 : decode cL_shares 151 = .ok (.iconst 0, 1) := by decide +kernel
theorem dL_shares_152 : decode cL_shares 152 = .ok (.iconst 0, 1) := by decide +kernel
theorem dL_shares_153 : decode cL_shares 153 = .ok (.invokestatic 83, 3) := by decide +kernel
theorem dL_shares_156 : decode cL_shares 156 = .ok (.ldc 68, 2) := by decide +kernel
theorem dL_shares_158 : decode cL_shares 158 = .ok (.if_icmp .ne 54, 3) := by decide +kernel
theorem dL_shares_161 : decode cL_shares 161 = .ok (.aload_n 0, 1) := by decide +kernel
theorem dL_shares_162 : decode cL_shares 162 = .ok (.iconst 5, 1) := by decide +kernel
theorem dL_shares_163 : decode cL_shares 163 = .ok (.iconst 0, 1) := by decide +kernel
theorem dL_shares_164 : decode cL_shares 164 = .ok (.iconst 0, 1) := by decide +kernel
theorem dL_shares_165 : decode cL_shares 165 = .ok (.iconst 0, 1) := by decide +kernel
theorem dL_shares_166 : decode cL_shares 166 = .ok (.iconst 0, 1) := by decide +kernel
theorem dL_shares_167 : decode cL_shares 167 = .ok (.invokestatic 83, 3) := by decide +kernel
theorem dL_shares_170 : decode cL_shares 170 = .ok (.ldc 68, 2) := by decide +kernel
theorem dL_shares_172 : decode cL_shares 172 = .ok (.if_icmp .ne 40, 3) := by decide +kernel
theorem dL_shares_175 : decode cL_shares 175 = .ok (.aload_n 0, 1) := by decide +kernel
theorem dL_shares_176 : decode cL_shares 176 = .ok (.bipush 6, 2) := by decide +kernel
theorem dL_shares_178 : decode cL_shares 178 = .ok (.iconst 0, 1) := by decide +kernel
theorem dL_shares_179 : decode cL_shares 179 = .ok (.iconst 5, 1) := by decide +kernel
theorem dL_shares_180 : decode cL_shares 180 = .ok (.iconst 0, 1) := by decide +kernel
theorem dL_shares_181 : decode cL_shares 181 = .ok (.iconst 0, 1) := by decide +kernel
theorem dL_shares_182 : decode cL_shares 182 = .ok (.invokestatic 83, 3) := by decide +kernel
theorem dL_shares_185 : decode cL_shares 185 = .ok (.ldc 68, 2) := by decide +kernel
theorem dL_shares_187 : decode cL_shares 187 = .ok (.if_icmp .ne 25, 3) := by decide +kernel
theorem dL_shares_190 : decode cL_shares 190 = .ok (.aload_n 0, 1) := by decide +kernel
theorem dL_shares_191 : decode cL_shares 191 = .ok (.bipush 7, 2) := by decide +kernel
theorem dL_shares_193 : decode cL_shares 193 = .ok (.iconst 0, 1) := by decide +kernel
theorem dL_shares_194 : decode cL_shares 194 = .ok (.iconst 5, 1) := by decide +kernel
theorem dL_shares_195 : decode cL_shares 195 = .ok (.iconst 0, 1) := by decide +kernel
theorem dL_shares_196 : decode cL_shares 196 = .ok (.iconst 0, 1) := by decide +kernel
theorem dL_shares_197 : decode cL_shares 197 = .ok (.invokestatic 83, 3) := by decide +kernel
theorem dL_shares_200 : decode cL_shares 200 = .ok (.ldc 68, 2) := by decide +kernel
theorem dL_shares_202 : decode cL_shares 202 = .ok (.if_icmp .ne 10, 3) := by decide +kernel
theorem dL_shares_205 : decode cL_shares 205 = .ok (.aload_n 0, 1) := by decide +kernel
theorem dL_shares_206 : decode cL_shares 206 = .ok (.invokestatic 97, 3) := by decide +kernel
theorem dL_shares_209 : decode cL_shares 209 = .ok (.ifCond .ne 5, 3) := by decide +kernel
theorem dL_shares_212 : decode cL_shares 212 = .ok (.iconst 0, 1) := by decide +kernel
theorem dL_shares_213 : decode cL_shares 213 = .ok (.ireturn, 1) := by decide +kernel
theorem dL_shares_214 : decode cL_shares 214 = .ok (.aload_n 0, 1) := by decide +kernel
theorem dL_shares_215 : decode cL_shares 215 = .ok (.iconst 0, 1) := by decide +kernel
theorem dL_shares_216 : decode cL_shares 216 = .ok (.bipush 100, 2) := by decide +kernel
theorem dL_shares_218 : decode cL_shares 218 = .ok (.bipush 32, 2) := by decide +kernel
theorem dL_shares_220 : decode cL_shares 220 = .ok (.bipush 10, 2) := by decide +kernel
theorem dL_shares_222 : decode cL_shares 222 = .ok (.invokevirtual 23, 3) := by decide +kernel
theorem dL_shares_225 : decode cL_shares 225 = .ok (.iconst 3, 1) := by decide +kernel
theorem dL_shares_226 : decode cL_shares 226 = .ok (.if_icmp .ne 179, 3) := by decide +kernel
theorem dL_shares_229 : decode cL_shares 229 = .ok (.aload_n 0, 1) := by decide +kernel
theorem dL_shares_230 : decode cL_shares 230 = .ok (.iconst 1, 1) := by decide +kernel
theorem dL_shares_231 : decode cL_shares 231 = .ok (.bipush 20, 2) := by decide +kernel
theorem dL_shares_233 : decode cL_shares 233 = .ok (.bipush 10, 2) := by decide +kernel
theorem dL_shares_235 : decode cL_shares 235 = .ok (.iconst 5, 1) := by decide +kernel
theorem dL_shares_236 : decode cL_shares 236 = .ok (.invokevirtual 23, 3) := by decide +kernel
theorem dL_shares_239 : decode cL_shares 239 = .ok (.iconst 3, 1) := by decide +kernel
theorem dL_shares_240 : decode cL_shares 240 = .ok (.if_icmp .ne 165, 3) := by decide +kernel
theorem dL_shares_243 : decode cL_shares 243 = .ok (.aload_n 0, 1) := by decide +kernel
theorem dL_shares_244 : decode cL_shares 244 = .ok (.iconst 2, 1) := by decide +kernel
theorem dL_shares_245 : decode cL_shares 245 = .ok (.sipush 300, 3) := by decide +kernel
theorem dL_shares_248 : decode cL_shares 248 = .ok (.bipush 32, 2) := by decide +kernel
theorem dL_shares_250 : decode cL_shares 250 = .ok (.bipush 9, 2) := by decide +kernel
theorem dL_shares_252 : decode cL_shares 252 = .ok (.invokevirtual 23, 3) := by decide +kernel
theorem dL_shares_255 : decode cL_shares 255 = .ok (.iconst (-1), 1) := by decide +kernel
theorem dL_shares_256 : decode cL_shares 256 = .ok (.if_icmp .ne 149, 3) := by decide +kernel
theorem dL_shares_259 : decode cL_shares 259 = .ok (.aload_n 0, 1) := by decide +kernel
theorem dL_shares_260 : decode cL_shares 260 = .ok (.iconst 3, 1) := by decide +kernel
theorem dL_shares_261 : decode cL_shares 261 = .ok (.bipush 90, 2) := by decide +kernel
theorem dL_shares_263 : decode cL_shares 263 = .ok (.bipush 32, 2) := by decide +kernel
theorem dL_shares_265 : decode cL_shares 265 = .ok (.iconst 4, 1) := by decide +kernel
theorem dL_shares_266 : decode cL_shares 266 = .ok (.invokevirtual 23, 3) := by decide +kernel
theorem dL_shares_269 : decode cL_shares 269 = .ok (.iconst 2, 1) := by decide +kernel
theorem dL_shares_270 : decode cL_shares 270 = .ok (.if_icmp .ne 135, 3) := by decide +kernel
theorem dL_shares_273 : decode cL_shares 273 = .ok (.aload_n 0, 1) := by decide +kernel
theorem dL_shares_274 : decode cL_shares 274 = .ok (.iconst 4, 1) := by decide +kernel
theorem dL_shares_275 : decode cL_shares 275 = .ok (.iconst 3, 1) := by decide +kernel
theorem dL_shares_276 : decode cL_shares 276 = .ok (.iconst 5, 1) := by decide +kernel
theorem dL_shares_277 : decode cL_shares 277 = .ok (.iconst 5, 1) := by decide +kernel
theorem dL_shares_278 : decode cL_shares 278 = .ok (.iconst 5, 1) := by decide +kernel
theorem dL_shares_279 : decode cL_shares 279 = .ok (.invokestatic 83, 3) := by decide +kernel
theorem dL_shares_282 : decode cL_shares 282 = .ok (.ldc 68, 2) := by decide +kernel
theorem dL_shares_284 : decode cL_shares 284 = .ok (.if_icmp .ne 121, 3) := by decide +kernel
theorem dL_shares_287 : decode cL_shares 287 = .ok (.aload_n 0, 1) := by decide +kernel
theorem dL_shares_288 : decode cL_shares 288 = .ok (.iconst 0, 1) := by decide +kernel
theorem dL_shares_289 : decode cL_shares 289 = .ok (.invokevirtual 48, 3) := by decide +kernel
theorem dL_shares_292 : decode cL_shares 292 = .ok (.bipush 16, 2) := by decide +kernel
theorem dL_shares_294 : decode cL_shares 294 = .ok (.if_icmp .ne 111, 3) := by decide +kernel
theorem dL_shares_297 : decode cL_shares 297 = .ok (.aload_n 0, 1) := by decide +kernel
theorem dL_shares_298 : decode cL_shares 298 = .ok (.iconst 1, 1) := by decide +kernel
theorem dL_shares_299 : decode cL_shares 299 = .ok (.invokevirtual 48, 3) := by decide +kernel
theorem dL_shares_302 : decode cL_shares 302 = .ok (.bipush 10, 2) := by decide +kernel
theorem dL_shares_304 : decode cL_shares 304 = .ok (.if_icmp .ne 101, 3) := by decide +kernel
theorem dL_shares_307 : decode cL_shares 307 = .ok (.aload_n 0, 1) := by decide +kernel
theorem dL_shares_308 : decode cL_shares 308 = .ok (.iconst 2, 1) := by decide +kernel
theorem dL_shares_309 : decode cL_shares 309 = .ok (.invokevirtual 48, 3) := by decide +kernel
theorem dL_shares_312 : decode cL_shares 312 = .ok (.bipush 32, 2) := by decide +kernel
theorem dL_shares_314 : decode cL_shares 314 = .ok (.if_icmp .ne 91, 3) := by decide +kernel
theorem dL_shares_317 : decode cL_shares 317 = .ok (.aload_n 0, 1) := by decide +kernel
theorem dL_shares_318 : decode cL_shares 318 = .ok (.iconst 3, 1) := by decide +kernel
theorem dL_shares_319 : decode cL_shares 319 = .ok (.invokevirtual 48, 3) := by decide +kernel
theorem dL_shares_322 : decode cL_shares 322 = .ok (.bipush 20, 2) := by decide +kernel
theorem dL_shares_324 : decode cL_shares 324 = .ok (.if_icmp .ne 81, 3) := by decide +kernel
theorem dL_shares_327 : decode cL_shares 327 = .ok (.aload_n 0, 1) := by decide +kernel
theorem dL_shares_328 : decode cL_shares 328 = .ok (.invokevirtual 93, 3) := by decide +kernel
theorem dL_shares_331 : decode cL_shares 331 = .ok (.ifCond .ne 74, 3) := by decide +kernel
theorem dL_shares_334 : decode cL_shares 334 = .ok (.aload_n 0, 1) := by decide +kernel
theorem dL_shares_335 : decode cL_shares 335 = .ok (.bipush 16, 2) := by decide +kernel
theorem dL_shares_337 : decode cL_shares 337 = .ok (.bipush 10, 2) := by decide +kernel
theorem dL_shares_339 : decode cL_shares 339 = .ok (.bipush 32, 2) := by decide +kernel
theorem dL_shares_341 : decode cL_shares 341 = .ok (.iconst 0, 1) := by decide +kernel
theorem dL_shares_342 : decode cL_shares 342 = .ok (.invokestatic 101, 3) := by decide +kernel
theorem dL_shares_345 : decode cL_shares 345 = .ok (.ifCond .eq 60, 3) := by decide +kernel
theorem dL_shares_348 : decode cL_shares 348 = .ok (.aload_n 0, 1) := by decide +kernel
theorem dL_shares_349 : decode cL_shares 349 = .ok (.bipush 26, 2) := by decide +kernel
theorem dL_shares_351 : decode cL_shares 351 = .ok (.bipush 32, 2) := by decide +kernel
theorem dL_shares_353 : decode cL_shares 353 = .ok (.iconst 0, 1) := by decide +kernel
theorem dL_shares_354 : decode cL_shares 354 = .ok (.bipush 32, 2) := by decide +kernel
theorem dL_shares_356 : decode cL_shares 356 = .ok (.invokestatic 105, 3) := by decide +kernel
theorem dL_shares_359 : decode cL_shares 359 = .ok (.ifCond .eq 46, 3) := by decide +kernel
theorem dL_shares_362 : decode cL_shares 362 = .ok (.aload_n 0, 1) := by decide +kernel
theorem dL_shares_363 : decode cL_shares 363 = .ok (.invokevirtual 79, 3) := by decide +kernel
theorem dL_shares_366 : decode cL_shares 366 = .ok (.bipush 8, 2) := by decide +kernel
theorem dL_shares_368 : decode cL_shares 368 = .ok (.if_icmp .ne 37, 3) := by decide +kernel
theorem dL_shares_371 : decode cL_shares 371 = .ok (.aload_n 0, 1) := by decide +kernel
theorem dL_shares_372 : decode cL_shares 372 = .ok (.iconst 0, 1) := by decide +kernel
theorem dL_shares_373 : decode cL_shares 373 = .ok (.invokevirtual 57, 3) := by decide +kernel
theorem dL_shares_376 : decode cL_shares 376 = .ok (.iconst (-1), 1) := by decide +kernel
theorem dL_shares_377 : decode cL_shares 377 = .ok (.if_icmp .ne 28, 3) := by decide +kernel
theorem dL_shares_380 : decode cL_shares 380 = .ok (.aload_n 0, 1) := by decide +kernel
theorem dL_shares_381 : decode cL_shares 381 = .ok (.iconst 1, 1) := by decide +kernel
theorem dL_shares_382 : decode cL_shares 382 = .ok (.invokevirtual 57, 3) := by decide +kernel
theorem dL_shares_385 : decode cL_shares 385 = .ok (.iconst (-1), 1) := by decide +kernel
theorem dL_shares_386 : decode cL_shares 386 = .ok (.if_icmp .ne 19, 3) := by decide +kernel
theorem dL_shares_389 : decode cL_shares 389 = .ok (.aload_n 0, 1) := by decide +kernel
theorem dL_shares_390 : decode cL_shares 390 = .ok (.iconst 2, 1) := by decide +kernel
theorem dL_shares_391 : decode cL_shares 391 = .ok (.invokevirtual 57, 3) := by decide +kernel
theorem dL_shares_394 : decode cL_shares 394 = .ok (.iconst (-1), 1) := by decide +kernel
theorem dL_shares_395 : decode cL_shares 395 = .ok (.if_icmp .ne 10, 3) := by decide +kernel
theorem dL_shares_398 : decode cL_shares 398 = .ok (.aload_n 0, 1) := by decide +kernel
theorem dL_shares_399 : decode cL_shares 399 = .ok (.invokestatic 97, 3) := by decide +kernel
theorem dL_shares_402 : decode cL_shares 402 = .ok (.ifCond .ne 5, 3) := by decide +kernel
theorem dL_shares_405 : decode cL_shares 405 = .ok (.iconst 0, 1) := by decide +kernel
theorem dL_shares_406 : decode cL_shares 406 = .ok (.ireturn, 1) := by decide +kernel
theorem dL_shares_407 : decode cL_shares 407 = .ok (.aload_n 0, 1) := by decide +kernel
theorem dL_shares_408 : decode cL_shares 408 = .ok (.iconst 1, 1) := by decide +kernel
theorem dL_shares_409 : decode cL_shares 409 = .ok (.invokevirtual 20, 3) := by decide +kernel
theorem dL_shares_412 : decode cL_shares 412 = .ok (.ifCond .ne 255, 3) := by decide +kernel
theorem dL_shares_415 : decode cL_shares 415 = .ok (.aload_n 0, 1) := by decide +kernel
theorem dL_shares_416 : decode cL_shares 416 = .ok (.bipush 11, 2) := by decide +kernel
theorem dL_shares_418 : decode cL_shares 418 = .ok (.bipush 10, 2) := by decide +kernel
theorem dL_shares_420 : decode cL_shares 420 = .ok (.bipush 21, 2) := by decide +kernel
theorem dL_shares_422 : decode cL_shares 422 = .ok (.bipush 11, 2) := by decide +kernel
theorem dL_shares_424 : decode cL_shares 424 = .ok (.invokestatic 101, 3) := by decide +kernel
theorem dL_shares_427 : decode cL_shares 427 = .ok (.ifCond .eq 240, 3) := by decide +kernel
theorem dL_shares_430 : decode cL_shares 430 = .ok (.aload_n 0, 1) := by decide +kernel
theorem dL_shares_431 : decode cL_shares 431 = .ok (.bipush 32, 2) := by decide +kernel
theorem dL_shares_433 : decode cL_shares 433 = .ok (.bipush 32, 2) := by decide +kernel
theorem dL_shares_435 : decode cL_shares 435 = .ok (.bipush 11, 2) := by decide +kernel
theorem dL_shares_437 : decode cL_shares 437 = .ok (.bipush 21, 2) := by decide +kernel
theorem dL_shares_439 : decode cL_shares 439 = .ok (.invokestatic 105, 3) := by decide +kernel
theorem dL_shares_442 : decode cL_shares 442 = .ok (.ifCond .eq 225, 3) := by decide +kernel
theorem dL_shares_445 : decode cL_shares 445 = .ok (.aload_n 0, 1) := by decide +kernel
theorem dL_shares_446 : decode cL_shares 446 = .ok (.invokevirtual 79, 3) := by decide +kernel
theorem dL_shares_449 : decode cL_shares 449 = .ok (.bipush 13, 2) := by decide +kernel
theorem dL_shares_451 : decode cL_shares 451 = .ok (.if_icmp .ne 216, 3) := by decide +kernel
theorem dL_shares_454 : decode cL_shares 454 = .ok (.aload_n 0, 1) := by decide +kernel
theorem dL_shares_455 : decode cL_shares 455 = .ok (.iconst 0, 1) := by decide +kernel
theorem dL_shares_456 : decode cL_shares 456 = .ok (.invokevirtual 57, 3) := by decide +kernel
theorem dL_shares_459 : decode cL_shares 459 = .ok (.sipush 11000, 3) := by decide +kernel
theorem dL_shares_462 : decode cL_shares 462 = .ok (.if_icmp .ne 205, 3) := by decide +kernel
theorem dL_shares_465 : decode cL_shares 465 = .ok (.aload_n 0, 1) := by decide +kernel
theorem dL_shares_466 : decode cL_shares 466 = .ok (.iconst 1, 1) := by decide +kernel
theorem dL_shares_467 : decode cL_shares 467 = .ok (.invokevirtual 57, 3) := by decide +kernel
theorem dL_shares_470 : decode cL_shares 470 = .ok (.sipush 21000, 3) := by decide +kernel
theorem dL_shares_473 : decode cL_shares 473 = .ok (.if_icmp .ne 194, 3) := by decide +kernel
theorem dL_shares_476 : decode cL_shares 476 = .ok (.aload_n 0, 1) := by decide +kernel
theorem dL_shares_477 : decode cL_shares 477 = .ok (.bipush 10, 2) := by decide +kernel
theorem dL_shares_479 : decode cL_shares 479 = .ok (.invokevirtual 16, 3) := by decide +kernel
theorem dL_shares_482 : decode cL_shares 482 = .ok (.bipush 100, 2) := by decide +kernel
theorem dL_shares_484 : decode cL_shares 484 = .ok (.if_icmp .ne 183, 3) := by decide +kernel
theorem dL_shares_487 : decode cL_shares 487 = .ok (.aload_n 0, 1) := by decide +kernel
theorem dL_shares_488 : decode cL_shares 488 = .ok (.iconst 5, 1) := by decide +kernel
theorem dL_shares_489 : decode cL_shares 489 = .ok (.iconst 5, 1) := by decide +kernel
theorem dL_shares_490 : decode cL_shares 490 = .ok (.bipush 10, 2) := by decide +kernel
theorem dL_shares_492 : decode cL_shares 492 = .ok (.bipush 11, 2) := by decide +kernel
theorem dL_shares_494 : decode cL_shares 494 = .ok (.invokestatic 101, 3) := by decide +kernel
theorem dL_shares_497 : decode cL_shares 497 = .ok (.ifCond .eq 170, 3) := by decide +kernel
theorem dL_shares_500 : decode cL_shares 500 = .ok (.aload_n 0, 1) := by decide +kernel
theorem dL_shares_501 : decode cL_shares 501 = .ok (.bipush 21, 2) := by decide +kernel
theorem dL_shares_503 : decode cL_shares 503 = .ok (.bipush 21, 2) := by decide +kernel
theorem dL_shares_505 : decode cL_shares 505 = .ok (.bipush 11, 2) := by decide +kernel
theorem dL_shares_507 : decode cL_shares 507 = .ok (.bipush 10, 2) := by decide +kernel
theorem dL_shares_509 : decode cL_shares 509 = .ok (.invokestatic 105, 3) := by decide +kernel
theorem dL_shares_512 : decode cL_shares 512 = .ok (.ifCond .eq 155, 3) := by decide +kernel
theorem dL_shares_515 : decode cL_shares 515 = .ok (.aload_n 0, 1) := by decide +kernel
theorem dL_shares_516 : decode cL_shares 516 = .ok (.invokevirtual 79, 3) := by decide +kernel
theorem dL_shares_519 : decode cL_shares 519 = .ok (.bipush 15, 2) := by decide +kernel
theorem dL_shares_521 : decode cL_shares 521 = .ok (.if_icmp .ne 146, 3) := by decide +kernel
theorem dL_shares_524 : decode cL_shares 524 = .ok (.aload_n 0, 1) := by decide +kernel
theorem dL_shares_525 : decode cL_shares 525 = .ok (.iconst 0, 1) := by decide +kernel
theorem dL_shares_526 : decode cL_shares 526 = .ok (.invokevirtual 57, 3) := by decide +kernel
theorem dL_shares_529 : decode cL_shares 529 = .ok (.sipush 11000, 3) := by decide +kernel
theorem dL_shares_532 : decode cL_shares 532 = .ok (.if_icmp .ne 135, 3) := by decide +kernel
theorem dL_shares_535 : decode cL_shares 535 = .ok (.aload_n 0, 1) := by decide +kernel
theorem dL_shares_536 : decode cL_shares 536 = .ok (.iconst 0, 1) := by decide +kernel
theorem dL_shares_537 : decode cL_shares 537 = .ok (.invokevirtual 16, 3) := by decide +kernel
theorem dL_shares_540 : decode cL_shares 540 = .ok (.bipush 10, 2) := by decide +kernel
theorem dL_shares_542 : decode cL_shares 542 = .ok (.if_icmp .ne 125, 3) := by decide +kernel
theorem dL_shares_545 : decode cL_shares 545 = .ok (.aload_n 0, 1) := by decide +kernel
theorem dL_shares_546 : decode cL_shares 546 = .ok (.iconst 0, 1) := by decide +kernel
theorem dL_shares_547 : decode cL_shares 547 = .ok (.iconst 0, 1) := by decide +kernel
theorem dL_shares_548 : decode cL_shares 548 = .ok (.iconst 0, 1) := by decide +kernel
theorem dL_shares_549 : decode cL_shares 549 = .ok (.bipush 11, 2) := by decide +kernel
theorem dL_shares_551 : decode cL_shares 551 = .ok (.invokestatic 101, 3) := by decide +kernel
theorem dL_shares_554 : decode cL_shares 554 = .ok (.ifCond .eq 113, 3) := by decide +kernel
theorem dL_shares_557 : decode cL_shares 557 = .ok (.aload_n 0, 1) := by decide +kernel
theorem dL_shares_558 : decode cL_shares 558 = .ok (.bipush 11, 2) := by decide +kernel
theorem dL_shares_560 : decode cL_shares 560 = .ok (.bipush 11, 2) := by decide +kernel
theorem dL_shares_562 : decode cL_shares 562 = .ok (.bipush 11, 2) := by decide +kernel
theorem dL_shares_564 : decode cL_shares 564 = .ok (.iconst 0, 1) := by decide +kernel
theorem dL_shares_565 : decode cL_shares 565 = .ok (.invokestatic 105, 3) := by decide +kernel
theorem dL_shares_568 : decode cL_shares 568 = .ok (.ifCond .eq 99, 3) := by decide +kernel
theorem dL_shares_571 : decode cL_shares 571 = .ok (.aload_n 0, 1) := by decide +kernel
theorem dL_shares_572 : decode cL_shares 572 = .ok (.bipush 10, 2) := by decide +kernel
theorem dL_shares_574 : decode cL_shares 574 = .ok (.invokevirtual 16, 3) := by decide +kernel
theorem dL_shares_577 : decode cL_shares 577 = .ok (.ifCond .ne 90, 3) := by decide +kernel
theorem dL_shares_580 : decode cL_shares 580 = .ok (.aload_n 0, 1) := by decide +kernel
theorem dL_shares_581 : decode cL_shares 581 = .ok (.iconst 1, 1) := by decide +kernel
theorem dL_shares_582 : decode cL_shares 582 = .ok (.invokevirtual 36, 3) := by decide +kernel
theorem dL_shares_585 : decode cL_shares 585 = .ok (.bipush 53, 2) := by decide +kernel
theorem dL_shares_587 : decode cL_shares 587 = .ok (.if_icmp .ne 80, 3) := by decide +kernel
theorem dL_shares_590 : decode cL_shares 590 = .ok (.aload_n 0, 1) := by decide +kernel
theorem dL_shares_591 : decode cL_shares 591 = .ok (.invokevirtual 73, 3) := by decide +kernel
theorem dL_shares_594 : decode cL_shares 594 = .ok (.bipush 51, 2) := by decide +kernel
theorem dL_shares_596 : decode cL_shares 596 = .ok (.if_icmp .ne 71, 3) := by decide +kernel
theorem dL_shares_599 : decode cL_shares 599 = .ok (.aload_n 0, 1) := by decide +kernel
theorem dL_shares_600 : decode cL_shares 600 = .ok (.iconst 0, 1) := by decide +kernel
theorem dL_shares_601 : decode cL_shares 601 = .ok (.invokevirtual 39, 3) := by decide +kernel
theorem dL_shares_604 : decode cL_shares 604 = .ok (.bipush 95, 2) := by decide +kernel
theorem dL_shares_606 : decode cL_shares 606 = .ok (.if_icmp .ne 61, 3) := by decide +kernel
theorem dL_shares_609 : decode cL_shares 609 = .ok (.aload_n 0, 1) := by decide +kernel
theorem dL_shares_610 : decode cL_shares 610 = .ok (.iconst 1, 1) := by decide +kernel
theorem dL_shares_611 : decode cL_shares 611 = .ok (.invokevirtual 39, 3) := by decide +kernel
theorem dL_shares_614 : decode cL_shares 614 = .ok (.bipush 15, 2) := by decide +kernel
theorem dL_shares_616 : decode cL_shares 616 = .ok (.if_icmp .ne 51, 3) := by decide +kernel
theorem dL_shares_619 : decode cL_shares 619 = .ok (.aload_n 0, 1) := by decide +kernel
theorem dL_shares_620 : decode cL_shares 620 = .ok (.iconst 2, 1) := by decide +kernel
theorem dL_shares_621 : decode cL_shares 621 = .ok (.invokevirtual 39, 3) := by decide +kernel
theorem dL_shares_624 : decode cL_shares 624 = .ok (.sipush 290, 3) := by decide +kernel
theorem dL_shares_627 : decode cL_shares 627 = .ok (.if_icmp .ne 40, 3) := by decide +kernel
theorem dL_shares_630 : decode cL_shares 630 = .ok (.aload_n 0, 1) := by decide +kernel
theorem dL_shares_631 : decode cL_shares 631 = .ok (.iconst 3, 1) := by decide +kernel
theorem dL_shares_632 : decode cL_shares 632 = .ok (.invokevirtual 39, 3) := by decide +kernel
theorem dL_shares_635 : decode cL_shares 635 = .ok (.bipush 57, 2) := by decide +kernel
theorem dL_shares_637 : decode cL_shares 637 = .ok (.if_icmp .ne 30, 3) := by decide +kernel
theorem dL_shares_640 : decode cL_shares 640 = .ok (.aload_n 0, 1) := by decide +kernel
theorem dL_shares_641 : decode cL_shares 641 = .ok (.invokevirtual 76, 3) := by decide +kernel
theorem dL_shares_644 : decode cL_shares 644 = .ok (.bipush 53, 2) := by decide +kernel
theorem dL_shares_646 : decode cL_shares 646 = .ok (.if_icmp .ne 21, 3) := by decide +kernel
theorem dL_shares_649 : decode cL_shares 649 = .ok (.aload_n 0, 1) := by decide +kernel
theorem dL_shares_650 : decode cL_shares 650 = .ok (.iconst 3, 1) := by decide +kernel
theorem dL_shares_651 : decode cL_shares 651 = .ok (.invokevirtual 42, 3) := by decide +kernel
theorem dL_shares_654 : decode cL_shares 654 = .ok (.iconst 3, 1) := by decide +kernel
theorem dL_shares_655 : decode cL_shares 655 = .ok (.if_icmp .ne 12, 3) := by decide +kernel
theorem dL_shares_658 : decode cL_shares 658 = .ok (.aload_n 0, 1) := by decide +kernel
theorem dL_shares_659 : decode cL_shares 659 = .ok (.iconst 3, 1) := by decide +kernel
theorem dL_shares_660 : decode cL_shares 660 = .ok (.invokevirtual 45, 3) := by decide +kernel
theorem dL_shares_663 : decode cL_shares 663 = .ok (.iconst 2, 1) := by decide +kernel
theorem dL_shares_664 : decode cL_shares 664 = .ok (.if_icmp .eq 5, 3) := by decide +kernel
theorem dL_shares_667 : decode cL_shares 667 = .ok (.iconst 0, 1) := by decide +kernel
theorem dL_shares_668 : decode cL_shares 668 = .ok (.ireturn, 1) := by decide +kernel
theorem dL_shares_669 : decode cL_shares 669 = .ok (.aload_n 0, 1) := by decide +kernel
theorem dL_shares_670 : decode cL_shares 670 = .ok (.bipush 100, 2) := by decide +kernel
theorem dL_shares_672 : decode cL_shares 672 = .ok (.invokevirtual 16, 3) := by decide +kernel
theorem dL_shares_675 : decode cL_shares 675 = .ok (.bipush 10, 2) := by decide +kernel
theorem dL_shares_677 : decode cL_shares 677 = .ok (.if_icmp .ne 134, 3) := by decide +kernel
theorem dL_shares_680 : decode cL_shares 680 = .ok (.aload_n 0, 1) := by decide +kernel
theorem dL_shares_681 : decode cL_shares 681 = .ok (.iconst 0, 1) := by decide +kernel
theorem dL_shares_682 : decode cL_shares 682 = .ok (.bipush 7, 2) := by decide +kernel
theorem dL_shares_684 : decode cL_shares 684 = .ok (.invokevirtual 13, 3) := by decide +kernel
theorem dL_shares_687 : decode cL_shares 687 = .ok (.bipush 32, 2) := by decide +kernel
theorem dL_shares_689 : decode cL_shares 689 = .ok (.if_icmp .ne 122, 3) := by decide +kernel
theorem dL_shares_692 : decode cL_shares 692 = .ok (.aload_n 0, 1) := by decide +kernel
theorem dL_shares_693 : decode cL_shares 693 = .ok (.iconst 3, 1) := by decide +kernel
theorem dL_shares_694 : decode cL_shares 694 = .ok (.iconst 2, 1) := by decide +kernel
theorem dL_shares_695 : decode cL_shares 695 = .ok (.bipush 30, 2) := by decide +kernel
theorem dL_shares_697 : decode cL_shares 697 = .ok (.iconst 2, 1) := by decide +kernel
theorem dL_shares_698 : decode cL_shares 698 = .ok (.invokestatic 101, 3) := by decide +kernel
theorem dL_shares_701 : decode cL_shares 701 = .ok (.ifCond .eq 110, 3) := by decide +kernel
theorem dL_shares_704 : decode cL_shares 704 = .ok (.aload_n 0, 1) := by decide +kernel
theorem dL_shares_705 : decode cL_shares 705 = .ok (.bipush 7, 2) := by decide +kernel
theorem dL_shares_707 : decode cL_shares 707 = .ok (.bipush 32, 2) := by decide +kernel
theorem dL_shares_709 : decode cL_shares 709 = .ok (.iconst 2, 1) := by decide +kernel
theorem dL_shares_710 : decode cL_shares 710 = .ok (.bipush 30, 2) := by decide +kernel
theorem dL_shares_712 : decode cL_shares 712 = .ok (.invokestatic 105, 3) := by decide +kernel
theorem dL_shares_715 : decode cL_shares 715 = .ok (.ifCond .eq 96, 3) := by decide +kernel
theorem dL_shares_718 : decode cL_shares 718 = .ok (.aload_n 0, 1) := by decide +kernel
theorem dL_shares_719 : decode cL_shares 719 = .ok (.iconst 0, 1) := by decide +kernel
theorem dL_shares_720 : decode cL_shares 720 = .ok (.invokevirtual 57, 3) := by decide +kernel
theorem dL_shares_723 : decode cL_shares 723 = .ok (.sipush 2500, 3) := by decide +kernel
theorem dL_shares_726 : decode cL_shares 726 = .ok (.if_icmp .ne 85, 3) := by decide +kernel
theorem dL_shares_729 : decode cL_shares 729 = .ok (.aload_n 0, 1) := by decide +kernel
theorem dL_shares_730 : decode cL_shares 730 = .ok (.iconst 1, 1) := by decide +kernel
theorem dL_shares_731 : decode cL_shares 731 = .ok (.iconst 0, 1) := by decide +kernel
theorem dL_shares_732 : decode cL_shares 732 = .ok (.invokevirtual 13, 3) := by decide +kernel
theorem dL_shares_735 : decode cL_shares 735 = .ok (.bipush 32, 2) := by decide +kernel
theorem dL_shares_737 : decode cL_shares 737 = .ok (.if_icmp .ne 74, 3) := by decide +kernel
theorem dL_shares_740 : decode cL_shares 740 = .ok (.aload_n 0, 1) := by decide +kernel
theorem dL_shares_741 : decode cL_shares 741 = .ok (.iconst 4, 1) := by decide +kernel
theorem dL_shares_742 : decode cL_shares 742 = .ok (.iconst 3, 1) := by decide +kernel
theorem dL_shares_743 : decode cL_shares 743 = .ok (.iconst 0, 1) := by decide +kernel
theorem dL_shares_744 : decode cL_shares 744 = .ok (.iconst 0, 1) := by decide +kernel
theorem dL_shares_745 : decode cL_shares 745 = .ok (.invokestatic 101, 3) := by decide +kernel
theorem dL_shares_748 : decode cL_shares 748 = .ok (.ifCond .eq 63, 3) := by decide +kernel
theorem dL_shares_751 : decode cL_shares 751 = .ok (.aload_n 0, 1) := by decide +kernel
theorem dL_shares_752 : decode cL_shares 752 = .ok (.iconst 1, 1) := by decide +kernel
theorem dL_shares_753 : decode cL_shares 753 = .ok (.invokevirtual 57, 3) := by decide +kernel
theorem dL_shares_756 : decode cL_shares 756 = .ok (.ifCond .ne 55, 3) := by decide +kernel
theorem dL_shares_759 : decode cL_shares 759 = .ok (.aload_n 0, 1) := by decide +kernel
theorem dL_shares_760 : decode cL_shares 760 = .ok (.iconst 0, 1) := by decide +kernel
theorem dL_shares_761 : decode cL_shares 761 = .ok (.invokevirtual 57, 3) := by decide +kernel
theorem dL_shares_764 : decode cL_shares 764 = .ok (.sipush 3500, 3) := by decide +kernel
theorem dL_shares_767 : decode cL_shares 767 = .ok (.if_icmp .ne 44, 3) := by decide +kernel
theorem dL_shares_770 : decode cL_shares 770 = .ok (.aload_n 0, 1) := by decide +kernel
theorem dL_shares_771 : decode cL_shares 771 = .ok (.iconst 0, 1) := by decide +kernel
theorem dL_shares_772 : decode cL_shares 772 = .ok (.invokevirtual 20, 3) := by decide +kernel
theorem dL_shares_775 : decode cL_shares 775 = .ok (.iconst 1, 1) := by decide +kernel
theorem dL_shares_776 : decode cL_shares 776 = .ok (.if_icmp .ne 35, 3) := by decide +kernel
theorem dL_shares_779 : decode cL_shares 779 = .ok (.aload_n 0, 1) := by decide +kernel
theorem dL_shares_780 : decode cL_shares 780 = .ok (.iconst 0, 1) := by decide +kernel
theorem dL_shares_781 : decode cL_shares 781 = .ok (.bipush 7, 2) := by decide +kernel
theorem dL_shares_783 : decode cL_shares 783 = .ok (.iconst 0, 1) := by decide +kernel
theorem dL_shares_784 : decode cL_shares 784 = .ok (.iconst 0, 1) := by decide +kernel
theorem dL_shares_785 : decode cL_shares 785 = .ok (.invokestatic 101, 3) := by decide +kernel
theorem dL_shares_788 : decode cL_shares 788 = .ok (.ifCond .eq 23, 3) := by decide +kernel
theorem dL_shares_791 : decode cL_shares 791 = .ok (.aload_n 0, 1) := by decide +kernel
theorem dL_shares_792 : decode cL_shares 792 = .ok (.invokevirtual 79, 3) := by decide +kernel
theorem dL_shares_795 : decode cL_shares 795 = .ok (.bipush 15, 2) := by decide +kernel
theorem dL_shares_797 : decode cL_shares 797 = .ok (.if_icmp .ne 14, 3) := by decide +kernel
theorem dL_shares_800 : decode cL_shares 800 = .ok (.aload_n 0, 1) := by decide +kernel
theorem dL_shares_801 : decode cL_shares 801 = .ok (.invokestatic 97, 3) := by decide +kernel
theorem dL_shares_804 : decode cL_shares 804 = .ok (.ifCond .eq 7, 3) := by decide +kernel
theorem dL_shares_807 : decode cL_shares 807 = .ok (.iconst 1, 1) := by decide +kernel
theorem dL_shares_808 : decode cL_shares 808 = .ok (.goto 4, 3) := by decide +kernel
theorem dL_shares_811 : decode cL_shares 811 = .ok (.iconst 0, 1) := by decide +kernel
theorem dL_shares_812 : decode cL_shares 812 = .ok (.ireturn, 1) := by decide +kernel
