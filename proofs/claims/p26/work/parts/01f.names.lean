set_option maxRecDepth 20000 in
theorem ggL_shares_X0_init : GoodIn wsL_shares wsX0_init := goodIn_r _ [8, 9, 10, 11, 12, 13, 14, 15, 16, 17, 18, 19, 20, 21, 22, 23, 24, 257, 258, 259, 260, 261, 262, 263, 264, 265, 266, 267, 268, 269, 270, 271, 272] (by decide +kernel) (by decide +kernel)
set_option maxRecDepth 20000 in
theorem gL_shares_X0_init : GoodIn wsL_shares (wsX0_init) := ggL_shares_X0_init
set_option maxRecDepth 20000 in
theorem ggL_shares_X0_points : GoodIn wsL_shares wsX0_points := goodIn_r _ [28, 29, 257, 258, 259, 260, 261, 262, 263, 264, 265, 266, 267, 268, 269, 270, 271, 272] (by decide +kernel) (by decide +kernel)
set_option maxRecDepth 20000 in
theorem gL_shares_X0_points : GoodIn wsL_shares (wsV RL 69 RX0 yX0_points wsX0_points) := goodIn_app (goodIn_of _ (by decide +kernel)) ggL_shares_X0_points
set_option maxRecDepth 20000 in
theorem ggL_shares_X0_held : GoodIn wsL_shares wsX0_held := goodIn_r _ [33, 29, 19, 18, 34, 35, 36, 3, 37, 24, 38, 39, 40, 41, 21, 42, 43, 44, 45, 15, 46, 47, 48, 49, 50, 51, 52, 53, 17, 54, 55, 56, 57, 58, 13, 59, 60, 61, 62, 63, 64, 65, 14, 16, 66, 67, 68, 69, 70, 71, 72, 73, 74, 75, 76, 77, 22, 78, 79, 80, 81, 82, 83, 84, 85, 86, 87, 88, 89, 20, 90, 91, 92, 93, 94, 95, 96, 97, 98, 99, 100, 101, 102, 103, 104, 105, 106, 107, 108, 23, 109, 110, 111, 112, 113, 114, 115, 116, 117, 118, 119, 120, 257, 258, 259, 260, 261, 262, 263, 264, 265, 266, 267, 268, 269, 270, 271, 272] (by decide +kernel) (by decide +kernel)
set_option maxRecDepth 20000 in
theorem gL_shares_X0_held : GoodIn wsL_shares (wsV RL 79 RX0 yX0_held wsX0_held) := goodIn_app (goodIn_of _ (by decide +kernel)) ggL_shares_X0_held
set_option maxRecDepth 20000 in
theorem ggL_shares_X0_imbalance : GoodIn wsL_shares wsX0_imbalance := goodIn_r _ [124, 34, 35, 36, 3, 37, 24, 38, 39, 40, 41, 29, 19, 18, 21, 42, 43, 44, 45, 15, 46, 47, 48, 49, 50, 51, 52, 53, 17, 54, 55, 56, 57, 58, 13, 59, 60, 61, 62, 63, 64, 65, 14, 16, 66, 67, 68, 69, 70, 71, 72, 73, 74, 75, 76, 77, 22, 78, 79, 80, 81, 82, 83, 84, 85, 86, 87, 88, 89, 20, 90, 91, 92, 93, 94, 95, 96, 97, 98, 99, 100, 101, 102, 103, 104, 105, 106, 107, 108, 23, 109, 110, 111, 112, 113, 114, 115, 116, 117, 118, 119, 120, 257, 258, 259, 260, 261, 262, 263, 264, 265, 266, 267, 268, 269, 270, 271, 272] (by decide +kernel) (by decide +kernel)
set_option maxRecDepth 20000 in
theorem gL_shares_X0_imbalance : GoodIn wsL_shares (wsV RL 89 RX0 yX0_imbalance wsX0_imbalance) := goodIn_app (goodIn_of _ (by decide +kernel)) ggL_shares_X0_imbalance
set_option maxRecDepth 20000 in
theorem ggL_shares_X0_canBeReady : GoodIn wsL_shares wsX0_canBeReady := goodIn_r _ [128, 29, 15, 94, 95, 96, 3, 97, 62, 63, 64, 65, 14, 16, 46, 47, 48, 49, 55, 56, 57, 58, 13, 98, 99, 100, 101, 17, 54, 102, 103, 104, 59, 60, 61, 257, 258, 259, 260, 261, 262, 263, 264, 265, 266, 267, 268, 269, 270, 271, 272] (by decide +kernel) (by decide +kernel)
set_option maxRecDepth 20000 in
theorem gL_shares_X0_canBeReady : GoodIn wsL_shares (wsV RL 93 RX0 yX0_canBeReady wsX0_canBeReady) := goodIn_app (goodIn_of _ (by decide +kernel)) ggL_shares_X0_canBeReady
set_option maxRecDepth 20000 in
theorem ggL_shares_X0_fairLevel : GoodIn wsL_shares wsX0_fairLevel := goodIn_ca (goodIn_r _ [132, 22, 133, 134, 3, 135, 136, 137, 34, 35, 36, 37, 24, 38, 39, 40, 41, 29, 19, 18, 21, 42, 43, 44, 45, 15, 46, 47, 48, 49, 50, 51, 52, 53, 17, 54, 55, 56, 57, 58, 13, 59, 60, 61, 62, 63, 64, 65, 14, 16, 66, 67, 68, 69, 70, 71, 72, 73, 74, 75, 76, 77, 78, 79, 80, 81, 82, 83, 84, 85, 86, 87, 88, 89, 20, 90, 91, 92, 93, 94, 95, 96, 97, 98, 99, 100, 101, 102, 103, 104, 105, 106, 107, 108, 23, 109, 110, 111, 112, 113, 114, 115, 116, 117, 118, 119, 120, 138, 139, 140, 141, 142, 143, 144, 145, 257, 258, 259, 260, 261, 262, 263, 264, 265, 266, 267, 268, 269, 270, 271, 272] (by decide +kernel) (by decide +kernel)) (goodIn_sub (fun _ h => List.mem_cons_of_mem _ (List.mem_append_left _ (List.mem_append_left _ (List.mem_append_right _ h)))) (by decide +kernel))
set_option maxRecDepth 20000 in
theorem gL_shares_X0_fairLevel : GoodIn wsL_shares (wsV RL 57 RX0 yX0_fairLevel wsX0_fairLevel) := goodIn_app (goodIn_of _ (by decide +kernel)) ggL_shares_X0_fairLevel
set_option maxRecDepth 20000 in
theorem ggL_shares_X0_step : GoodIn wsL_shares wsX0_step := goodIn_ca (goodIn_r _ [149, 150, 54, 151, 152, 3, 153, 136, 137, 34, 35, 36, 37, 24, 38, 39, 40, 41, 29, 19, 18, 21, 42, 43, 44, 45, 15, 46, 47, 48, 49, 50, 51, 52, 53, 17, 55, 56, 57, 58, 13, 59, 60, 61, 62, 63, 64, 65, 14, 16, 66, 67, 68, 69, 70, 71, 72, 73, 74, 75, 76, 77, 22, 78, 79, 80, 81, 82, 83, 84, 85, 86, 87, 88, 89, 20, 90, 91, 92, 93, 94, 95, 96, 97, 98, 99, 100, 101, 102, 103, 104, 105, 106, 107, 108, 23, 109, 110, 111, 112, 113, 114, 115, 116, 117, 118, 119, 120, 154, 155, 156, 157, 257, 258, 259, 260, 261, 262, 263, 264, 265, 266, 267, 268, 269, 270, 271, 272] (by decide +kernel) (by decide +kernel)) (goodIn_sub (fun _ h => List.mem_cons_of_mem _ (List.mem_append_left _ (List.mem_append_left _ (List.mem_append_right _ h)))) (by decide +kernel))
set_option maxRecDepth 20000 in
theorem gL_shares_X0_step : GoodIn wsL_shares (wsV RL 36 RX0 yX0_step wsX0_step) := goodIn_app (goodIn_of _ (by decide +kernel)) ggL_shares_X0_step
set_option maxRecDepth 20000 in
theorem ggL_shares_X0_time : GoodIn wsL_shares wsX0_time := goodIn_r _ [161, 54, 257, 258, 259, 260, 261, 262, 263, 264, 265, 266, 267, 268, 269, 270, 271, 272] (by decide +kernel) (by decide +kernel)
set_option maxRecDepth 20000 in
theorem gL_shares_X0_time : GoodIn wsL_shares (wsV RL 73 RX0 yX0_time wsX0_time) := goodIn_app (goodIn_of _ (by decide +kernel)) ggL_shares_X0_time
set_option maxRecDepth 20000 in
theorem ggL_shares_L_act : GoodIn wsL_shares wsL_act := goodIn_ca (goodIn_ca (goodIn_ca (goodIn_r _ [165, 166, 167, 168, 4, 169, 5, 170, 171, 172, 3, 173, 174, 175, 29, 13, 14, 15, 133, 134, 135, 136, 137, 151, 152, 153, 176, 177, 178, 179, 22, 180, 181, 182, 183, 23, 184, 185, 186, 187, 24, 188, 189, 190, 191, 16, 17, 54, 192, 193, 194, 195, 196, 197, 198, 199, 200, 201, 94, 95, 96, 97, 62, 63, 64, 65, 46, 47, 48, 49, 55, 56, 57, 58, 98, 99, 100, 101, 102, 103, 104, 59, 60, 61, 202, 203, 204, 205, 206, 207, 208, 209, 210, 211, 212, 213, 214, 215, 216, 217, 218, 146, 147, 148, 149, 150, 34, 35, 36, 37, 38, 39, 40, 41, 19, 18, 21, 42, 43, 44, 45, 50, 51, 52, 53, 66, 67, 68, 69, 70, 71, 72, 73, 74, 75, 76, 77, 78, 79, 80, 81, 82, 83, 84, 85, 86, 87, 88, 89, 20, 90, 91, 92, 93, 105, 106, 107, 108, 109, 110, 111, 112, 113, 114, 115, 116, 117, 118, 119, 120, 154, 155, 156, 157, 219, 220, 221, 222, 223, 224, 225, 226, 227, 228, 229, 230, 231, 232, 233, 234, 235, 236, 237, 238, 239, 240, 241, 242, 129, 130, 131, 132, 138, 139, 140, 141, 142, 143, 144, 145, 257, 258, 259, 260, 261, 262, 263, 264, 265, 266, 267, 268, 269, 270, 271, 272] (by decide +kernel) (by decide +kernel)) (goodIn_sub (fun _ h => List.mem_cons_of_mem _ (List.mem_append_left _ (List.mem_append_right _ h))) (by decide +kernel))) (goodIn_sub (fun _ h => List.mem_cons_of_mem _ (List.mem_append_left _ (List.mem_append_left _ (List.mem_append_right _ h)))) (by decide +kernel))) (goodIn_sub (fun _ h => List.mem_cons_of_mem _ (List.mem_append_right _ h)) (by decide +kernel))
set_option maxRecDepth 20000 in
theorem gL_shares_L_act : GoodIn wsL_shares (va_wsS RL 83 yL_act wsL_act) := goodIn_app (goodIn_of _ (by decide +kernel)) ggL_shares_L_act
set_option maxRecDepth 20000 in
theorem ggL_shares_X0_point : GoodIn wsL_shares wsX0_point := goodIn_ca (goodIn_ca (goodIn_r _ [173, 174, 175, 29, 13, 14, 15, 133, 134, 3, 135, 136, 137, 151, 152, 153, 257, 258, 259, 260, 261, 262, 263, 264, 265, 266, 267, 268, 269, 270, 271, 272] (by decide +kernel) (by decide +kernel)) (goodIn_sub (fun _ h => List.mem_cons_of_mem _ (List.mem_append_left _ (List.mem_append_right _ h))) (by decide +kernel))) (goodIn_sub (fun _ h => List.mem_cons_of_mem _ (List.mem_append_left _ (List.mem_append_left _ (List.mem_append_right _ h)))) (by decide +kernel))
set_option maxRecDepth 20000 in
theorem gL_shares_X0_point : GoodIn wsL_shares (wsV RL 7 RX0 yX0_point wsX0_point) := goodIn_app (goodIn_of _ (by decide +kernel)) ggL_shares_X0_point
set_option maxRecDepth 20000 in
theorem ggL_shares_X0_need : GoodIn wsL_shares wsX0_need := goodIn_ca (goodIn_r _ [222, 15, 192, 193, 194, 3, 195, 196, 197, 29, 257, 258, 259, 260, 261, 262, 263, 264, 265, 266, 267, 268, 269, 270, 271, 272] (by decide +kernel) (by decide +kernel)) (goodIn_sub (fun _ h => List.mem_cons_of_mem _ (List.mem_append_right _ h)) (by decide +kernel))
set_option maxRecDepth 20000 in
theorem gL_shares_X0_need : GoodIn wsL_shares (wsV RL 39 RX0 yX0_need wsX0_need) := goodIn_app (goodIn_of _ (by decide +kernel)) ggL_shares_X0_need
set_option maxRecDepth 20000 in
theorem ggL_shares_X0_left : GoodIn wsL_shares wsX0_left := goodIn_ca (goodIn_r _ [226, 192, 193, 194, 3, 195, 196, 197, 29, 198, 199, 200, 201, 15, 98, 99, 100, 101, 17, 54, 102, 103, 48, 104, 257, 258, 259, 260, 261, 262, 263, 264, 265, 266, 267, 268, 269, 270, 271, 272] (by decide +kernel) (by decide +kernel)) (goodIn_sub (fun _ h => List.mem_cons_of_mem _ (List.mem_append_right _ h)) (by decide +kernel))
set_option maxRecDepth 20000 in
theorem gL_shares_X0_left : GoodIn wsL_shares (wsV RL 42 RX0 yX0_left wsX0_left) := goodIn_app (goodIn_of _ (by decide +kernel)) ggL_shares_X0_left
set_option maxRecDepth 20000 in
theorem ggL_shares_X0_reach : GoodIn wsL_shares wsX0_reach := goodIn_ca (goodIn_r _ [234, 192, 193, 194, 3, 195, 196, 197, 29, 42, 43, 44, 45, 15, 46, 47, 48, 49, 50, 51, 52, 53, 17, 54, 55, 56, 57, 58, 13, 59, 60, 61, 62, 63, 64, 65, 14, 16, 257, 258, 259, 260, 261, 262, 263, 264, 265, 266, 267, 268, 269, 270, 271, 272] (by decide +kernel) (by decide +kernel)) (goodIn_sub (fun _ h => List.mem_cons_of_mem _ (List.mem_append_right _ h)) (by decide +kernel))
set_option maxRecDepth 20000 in
theorem gL_shares_X0_reach : GoodIn wsL_shares (wsV RL 48 RX0 yX0_reach wsX0_reach) := goodIn_app (goodIn_of _ (by decide +kernel)) ggL_shares_X0_reach
set_option maxRecDepth 20000 in
theorem ggL_shares_L_refuses : GoodIn wsL_shares wsL_refuses := goodIn_ca (goodIn_ca (goodIn_ca (goodIn_r _ [245, 246, 169, 4, 25, 26, 27, 3, 28, 29, 158, 159, 160, 161, 54, 247, 248, 249, 250, 150, 30, 31, 32, 33, 19, 18, 34, 35, 36, 37, 24, 38, 39, 40, 41, 21, 42, 43, 44, 45, 15, 46, 47, 48, 49, 50, 51, 52, 53, 17, 55, 56, 57, 58, 13, 59, 60, 61, 62, 63, 64, 65, 14, 16, 66, 67, 68, 69, 70, 71, 72, 73, 74, 75, 76, 77, 22, 78, 79, 80, 81, 82, 83, 84, 85, 86, 87, 88, 89, 20, 90, 91, 92, 93, 94, 95, 96, 97, 98, 99, 100, 101, 102, 103, 104, 105, 106, 107, 108, 23, 109, 110, 111, 112, 113, 114, 115, 116, 117, 118, 119, 120, 162, 163, 164, 165, 166, 167, 168, 5, 170, 171, 172, 173, 174, 175, 133, 134, 135, 136, 137, 151, 152, 153, 176, 177, 178, 179, 180, 181, 182, 183, 184, 185, 186, 187, 188, 189, 190, 191, 192, 193, 194, 195, 196, 197, 198, 199, 200, 201, 202, 203, 204, 205, 206, 207, 208, 209, 210, 211, 212, 213, 214, 215, 216, 217, 218, 146, 147, 148, 149, 154, 155, 156, 157, 219, 220, 221, 222, 223, 224, 225, 226, 227, 228, 229, 230, 231, 232, 233, 234, 235, 236, 237, 238, 239, 240, 241, 242, 129, 130, 131, 132, 138, 139, 140, 141, 142, 143, 144, 145, 257, 258, 259, 260, 261, 262, 263, 264, 265, 266, 267, 268, 269, 270, 271, 272] (by decide +kernel) (by decide +kernel)) (goodIn_sub (fun _ h => List.mem_cons_of_mem _ (List.mem_append_left _ (List.mem_append_right _ h))) (by decide +kernel))) (goodIn_sub (fun _ h => List.mem_cons_of_mem _ (List.mem_append_left _ (List.mem_append_left _ (List.mem_append_right _ h)))) (by decide +kernel))) (goodIn_sub (fun _ h => List.mem_cons_of_mem _ (List.mem_append_right _ h)) (by decide +kernel))
set_option maxRecDepth 20000 in
theorem gL_shares_L_refuses : GoodIn wsL_shares (va_wsS RL 97 yL_refuses wsL_refuses) := goodIn_app (goodIn_of _ (by decide +kernel)) ggL_shares_L_refuses
set_option maxRecDepth 20000 in
theorem ggL_shares_X0_plugIn : GoodIn wsL_shares wsX0_plugIn := goodIn_ca (goodIn_ca (goodIn_ca (goodIn_r _ [191, 174, 175, 15, 16, 17, 54, 192, 193, 194, 3, 195, 196, 197, 29, 151, 152, 153, 136, 137, 198, 199, 200, 201, 94, 95, 96, 97, 62, 63, 64, 65, 14, 46, 47, 48, 49, 55, 56, 57, 58, 13, 98, 99, 100, 101, 102, 103, 104, 59, 60, 61, 257, 258, 259, 260, 261, 262, 263, 264, 265, 266, 267, 268, 269, 270, 271, 272] (by decide +kernel) (by decide +kernel)) (goodIn_sub (fun _ h => List.mem_cons_of_mem _ (List.mem_append_left _ (List.mem_append_right _ h))) (by decide +kernel))) (goodIn_sub (fun _ h => List.mem_cons_of_mem _ (List.mem_append_right _ h)) (by decide +kernel))) (goodIn_sub (fun _ h => List.mem_cons_of_mem _ (List.mem_append_left _ (List.mem_append_left _ (List.mem_append_right _ h)))) (by decide +kernel))
set_option maxRecDepth 20000 in
theorem gL_shares_X0_plugIn : GoodIn wsL_shares (wsV RL 23 RX0 yX0_plugIn wsX0_plugIn) := goodIn_app (goodIn_of _ (by decide +kernel)) ggL_shares_X0_plugIn
set_option maxRecDepth 20000 in
theorem ggL_shares_L_gives : GoodIn wsL_shares wsL_gives := goodIn_ca (goodIn_r _ [253, 235, 236, 237, 3, 238, 19, 192, 193, 194, 195, 196, 197, 29, 34, 35, 36, 37, 24, 38, 39, 40, 41, 18, 21, 42, 43, 44, 45, 15, 46, 47, 48, 49, 50, 51, 52, 53, 17, 54, 55, 56, 57, 58, 13, 59, 60, 61, 62, 63, 64, 65, 14, 16, 66, 67, 68, 69, 70, 71, 72, 73, 74, 75, 76, 77, 22, 78, 79, 80, 81, 82, 83, 84, 85, 86, 87, 88, 89, 20, 90, 91, 92, 93, 94, 95, 96, 97, 98, 99, 100, 101, 102, 103, 104, 105, 106, 107, 108, 23, 109, 110, 111, 112, 113, 114, 115, 116, 117, 118, 119, 120, 257, 258, 259, 260, 261, 262, 263, 264, 265, 266, 267, 268, 269, 270, 271, 272] (by decide +kernel) (by decide +kernel)) (goodIn_sub (fun _ h => List.mem_cons_of_mem _ (List.mem_append_right _ h)) (by decide +kernel))
set_option maxRecDepth 20000 in
theorem gL_shares_L_gives : GoodIn wsL_shares (va_wsS RL 101 yL_gives wsL_gives) := goodIn_app (goodIn_of _ (by decide +kernel)) ggL_shares_L_gives
set_option maxRecDepth 20000 in
theorem ggL_shares_L_loads : GoodIn wsL_shares wsL_loads := goodIn_ca (goodIn_r _ [256, 239, 240, 241, 3, 242, 21, 133, 134, 135, 136, 137, 34, 35, 36, 37, 24, 38, 39, 40, 41, 29, 19, 18, 42, 43, 44, 45, 15, 46, 47, 48, 49, 50, 51, 52, 53, 17, 54, 55, 56, 57, 58, 13, 59, 60, 61, 62, 63, 64, 65, 14, 16, 66, 67, 68, 69, 70, 71, 72, 73, 74, 75, 76, 77, 22, 78, 79, 80, 81, 82, 83, 84, 85, 86, 87, 88, 89, 20, 90, 91, 92, 93, 94, 95, 96, 97, 98, 99, 100, 101, 102, 103, 104, 105, 106, 107, 108, 23, 109, 110, 111, 112, 113, 114, 115, 116, 117, 118, 119, 120, 121, 122, 123, 124, 257, 258, 259, 260, 261, 262, 263, 264, 265, 266, 267, 268, 269, 270, 271, 272] (by decide +kernel) (by decide +kernel)) (goodIn_sub (fun _ h => List.mem_cons_of_mem _ (List.mem_append_left _ (List.mem_append_left _ (List.mem_append_right _ h)))) (by decide +kernel))
set_option maxRecDepth 20000 in
theorem gL_shares_L_loads : GoodIn wsL_shares (va_wsS RL 105 yL_loads wsL_loads) := goodIn_app (goodIn_of _ (by decide +kernel)) ggL_shares_L_loads
set_option maxRecDepth 20000 in
theorem ggL_shares_X0_rule : GoodIn wsL_shares wsX0_rule := goodIn_ca (goodIn_r _ [187, 24, 151, 152, 3, 153, 136, 137, 257, 258, 259, 260, 261, 262, 263, 264, 265, 266, 267, 268, 269, 270, 271, 272] (by decide +kernel) (by decide +kernel)) (goodIn_sub (fun _ h => List.mem_cons_of_mem _ (List.mem_append_left _ (List.mem_append_left _ (List.mem_append_right _ h)))) (by decide +kernel))
set_option maxRecDepth 20000 in
theorem gL_shares_X0_rule : GoodIn wsL_shares (wsV RL 20 RX0 yX0_rule wsX0_rule) := goodIn_app (goodIn_of _ (by decide +kernel)) ggL_shares_X0_rule
set_option maxRecDepth 20000 in
theorem ggL_shares_X0_balance : GoodIn wsL_shares wsX0_balance := goodIn_ca (goodIn_r _ [183, 23, 151, 152, 3, 153, 136, 137, 257, 258, 259, 260, 261, 262, 263, 264, 265, 266, 267, 268, 269, 270, 271, 272] (by decide +kernel) (by decide +kernel)) (goodIn_sub (fun _ h => List.mem_cons_of_mem _ (List.mem_append_left _ (List.mem_append_left _ (List.mem_append_right _ h)))) (by decide +kernel))
set_option maxRecDepth 20000 in
theorem gL_shares_X0_balance : GoodIn wsL_shares (wsV RL 16 RX0 yX0_balance wsX0_balance) := goodIn_app (goodIn_of _ (by decide +kernel)) ggL_shares_X0_balance
set_option maxRecDepth 20000 in
theorem ggL_shares_X0_taken : GoodIn wsL_shares wsX0_taken := goodIn_r _ [250, 150, 257, 258, 259, 260, 261, 262, 263, 264, 265, 266, 267, 268, 269, 270, 271, 272] (by decide +kernel) (by decide +kernel)
set_option maxRecDepth 20000 in
theorem gL_shares_X0_taken : GoodIn wsL_shares (wsV RL 76 RX0 yX0_taken wsX0_taken) := goodIn_app (goodIn_of _ (by decide +kernel)) ggL_shares_X0_taken
set_option maxRecDepth 20000 in
theorem ggL_shares_X0_laxity : GoodIn wsL_shares wsX0_laxity := goodIn_ca (goodIn_ca (goodIn_r _ [230, 192, 193, 194, 3, 195, 196, 197, 29, 207, 208, 209, 210, 174, 175, 198, 199, 200, 201, 15, 94, 95, 96, 97, 62, 63, 64, 65, 14, 16, 46, 47, 48, 49, 55, 56, 57, 58, 13, 98, 99, 100, 101, 17, 54, 102, 103, 104, 59, 60, 61, 257, 258, 259, 260, 261, 262, 263, 264, 265, 266, 267, 268, 269, 270, 271, 272] (by decide +kernel) (by decide +kernel)) (goodIn_sub (fun _ h => List.mem_cons_of_mem _ (List.mem_append_right _ h)) (by decide +kernel))) (goodIn_sub (fun _ h => List.mem_cons_of_mem _ (List.mem_append_left _ (List.mem_append_right _ h))) (by decide +kernel))
set_option maxRecDepth 20000 in
theorem gL_shares_X0_laxity : GoodIn wsL_shares (wsV RL 45 RX0 yX0_laxity wsX0_laxity) := goodIn_app (goodIn_of _ (by decide +kernel)) ggL_shares_X0_laxity
set_option maxRecDepth 20000 in
theorem ggL_shares_X0_fuse : GoodIn wsL_shares wsX0_fuse := goodIn_ca (goodIn_r _ [179, 22, 133, 134, 3, 135, 136, 137, 151, 152, 153, 257, 258, 259, 260, 261, 262, 263, 264, 265, 266, 267, 268, 269, 270, 271, 272] (by decide +kernel) (by decide +kernel)) (goodIn_sub (fun _ h => List.mem_cons_of_mem _ (List.mem_append_left _ (List.mem_append_left _ (List.mem_append_right _ h)))) (by decide +kernel))
set_option maxRecDepth 20000 in
theorem gL_shares_X0_fuse : GoodIn wsL_shares (wsV RL 13 RX0 yX0_fuse wsX0_fuse) := goodIn_app (goodIn_of _ (by decide +kernel)) ggL_shares_X0_fuse
theorem dL_shares_0 : decode cL_shares 0 = .ok (.new 8, 3) := by decide +kernel
theorem dL_shares_3 : decode cL_shares 3 = .ok (.dup, 1) := by decide +kernel
theorem dL_shares_4 : decode cL_shares 4 = .ok (.invokespecial 92, 3) := by decide +kernel
theorem dL_shares_7 : decode cL_shares 7 = .ok (.astore_n 0, 1) := by decide +kernel
theorem dL_shares_8 : decode cL_shares 8 = .ok (.aload_n 0, 1) := by decide +kernel
theorem dL_shares_9 : decode cL_shares 9 = .ok (.invokevirtual 69, 3) := by decide +kernel
theorem dL_shares_12 : decode cL_shares 12 = .ok (.ifCond .ne 200, 3) := by decide +kernel
theorem dL_shares_15 : decode cL_shares 15 = .ok (.aload_n 0, 1) := by decide +kernel
theorem dL_shares_16 : decode cL_shares 16 = .ok (.invokevirtual 79, 3) := by decide +kernel
theorem dL_shares_19 : decode cL_shares 19 = .ok (.ifCond .ne 193, 3) := by decide +kernel
theorem dL_shares_22 : decode cL_shares 22 = .ok (.aload_n 0, 1) := by decide +kernel
theorem dL_shares_23 : decode cL_shares 23 = .ok (.invokevirtual 89, 3) := by decide +kernel
theorem dL_shares_26 : decode cL_shares 26 = .ok (.ifCond .ne 186, 3) := by decide +kernel
theorem dL_shares_29 : decode cL_shares 29 = .ok (.aload_n 0, 1) := by decide +kernel
theorem dL_shares_30 : decode cL_shares 30 = .ok (.invokevirtual 93, 3) := by decide +kernel
theorem dL_shares_33 : decode cL_shares 33 = .ok (.ifCond .eq 179, 3) := by decide +kernel
theorem dL_shares_36 : decode cL_shares 36 = .ok (.aload_n 0, 1) := by decide +kernel
theorem dL_shares_37 : decode cL_shares 37 = .ok (.iconst 1, 1) := by decide +kernel
theorem dL_shares_38 : decode cL_shares 38 = .ok (.invokevirtual 57, 3) := by decide +kernel
theorem dL_shares_41 : decode cL_shares 41 = .ok (.iconst (-1), 1) := by decide +kernel
theorem dL_shares_42 : decode cL_shares 42 = .ok (.if_icmp .ne 170, 3) := by decide +kernel
theorem dL_shares_45 : decode cL_shares 45 = .ok (.aload_n 0, 1) := by decide +kernel
theorem dL_shares_46 : decode cL_shares 46 = .ok (.bipush 50, 2) := by decide +kernel
theorem dL_shares_48 : decode cL_shares 48 = .ok (.invokevirtual 36, 3) := by decide +kernel
theorem dL_shares_51 : decode cL_shares 51 = .ok (.ifCond .ne 161, 3) := by decide +kernel
theorem dL_shares_54 : decode cL_shares 54 = .ok (.aload_n 0, 1) := by decide +kernel
theorem dL_shares_55 : decode cL_shares 55 = .ok (.invokevirtual 73, 3) := by decide +kernel
theorem dL_shares_58 : decode cL_shares 58 = .ok (.bipush 50, 2) := by decide +kernel
theorem dL_shares_60 : decode cL_shares 60 = .ok (.if_icmp .ne 152, 3) := by decide +kernel
theorem dL_shares_63 : decode cL_shares 63 = .ok (.aload_n 0, 1) := by decide +kernel
theorem dL_shares_64 : decode cL_shares 64 = .ok (.iconst 5, 1) := by decide +kernel
theorem dL_shares_65 : decode cL_shares 65 = .ok (.iconst 0, 1) := by decide +kernel
theorem dL_shares_66 : decode cL_shares 66 = .ok (.iconst 0, 1) := by decide +kernel
theorem dL_shares_67 : decode cL_shares 67 = .ok (.iconst 0, 1) := by decide +kernel
theorem dL_shares_68 : decode cL_shares 68 = .ok (.iconst 0, 1) := by decide +kernel
theorem dL_shares_69 : decode cL_shares 69 = .ok (.invokestatic 83, 3) := by decide +kernel
theorem dL_shares_72 : decode cL_shares 72 = .ok (.ldc 62, 2) := by decide +kernel
theorem dL_shares_74 : decode cL_shares 74 = .ok (.if_icmp .ne 138, 3) := by decide +kernel
theorem dL_shares_77 : decode cL_shares 77 = .ok (.aload_n 0, 1) := by decide +kernel
theorem dL_shares_78 : decode cL_shares 78 = .ok (.iconst 0, 1) := by decide +kernel
theorem dL_shares_79 : decode cL_shares 79 = .ok (.bipush 16, 2) := by decide +kernel
theorem dL_shares_81 : decode cL_shares 81 = .ok (.invokevirtual 7, 3) := by decide +kernel
theorem dL_shares_84 : decode cL_shares 84 = .ok (.ifCond .ne 128, 3) := by decide +kernel
theorem dL_shares_87 : decode cL_shares 87 = .ok (.aload_n 0, 1) := by decide +kernel
theorem dL_shares_88 : decode cL_shares 88 = .ok (.iconst 0, 1) := by decide +kernel
theorem dL_shares_89 : decode cL_shares 89 = .ok (.bipush 32, 2) := by decide +kernel
theorem dL_shares_91 : decode cL_shares 91 = .ok (.invokevirtual 7, 3) := by decide +kernel
theorem dL_shares_94 : decode cL_shares 94 = .ok (.iconst 1, 1) := by decide +kernel
theorem dL_shares_95 : decode cL_shares 95 = .ok (.if_icmp .ne 117, 3) := by decide +kernel
theorem dL_shares_98 : decode cL_shares 98 = .ok (.aload_n 0, 1) := by decide +kernel
theorem dL_shares_99 : decode cL_shares 99 = .ok (.iconst 1, 1) := by decide +kernel
theorem dL_shares_100 : decode cL_shares 100 = .ok (.bipush 32, 2) := by decide +kernel
theorem dL_shares_102 : decode cL_shares 102 = .ok (.invokevirtual 7, 3) := by decide +kernel
theorem dL_shares_105 : decode cL_shares 105 = .ok (.iconst 2, 1) := by decide +kernel
theorem dL_shares_106 : decode cL_shares 106 = .ok (.if_icmp .ne 106, 3) := by decide +kernel
theorem dL_shares_109 : decode cL_shares 109 = .ok (.aload_n 0, 1) := by decide +kernel
theorem dL_shares_110 : decode cL_shares 110 = .ok (.iconst 3, 1) := by decide +kernel
theorem dL_shares_111 : decode cL_shares 111 = .ok (.bipush 20, 2) := by decide +kernel
theorem dL_shares_113 : decode cL_shares 113 = .ok (.invokevirtual 7, 3) := by decide +kernel
theorem dL_shares_116 : decode cL_shares 116 = .ok (.iconst 3, 1) := by decide +kernel
theorem dL_shares_117 : decode cL_shares 117 = .ok (.if_icmp .ne 95, 3) := by decide +kernel
theorem dL_shares_120 : decode cL_shares 120 = .ok (.aload_n 0, 1) := by decide +kernel
theorem dL_shares_121 : decode cL_shares 121 = .ok (.iconst 0, 1) := by decide +kernel
theorem dL_shares_122 : decode cL_shares 122 = .ok (.invokevirtual 39, 3) := by decide +kernel
theorem dL_shares_125 : decode cL_shares 125 = .ok (.iconst (-1), 1) := by decide +kernel
theorem dL_shares_126 : decode cL_shares 126 = .ok (.if_icmp .ne 86, 3) := by decide +kernel
theorem dL_shares_129 : decode cL_shares 129 = .ok (.aload_n 0, 1) := by decide +kernel
theorem dL_shares_130 : decode cL_shares 130 = .ok (.iconst 0, 1) := by decide +kernel
theorem dL_shares_131 : decode cL_shares 131 = .ok (.invokevirtual 42, 3) := by decide +kernel
theorem dL_shares_134 : decode cL_shares 134 = .ok (.iconst (-1), 1) := by decide +kernel
theorem dL_shares_135 : decode cL_shares 135 = .ok (.if_icmp .ne 77, 3) := by decide +kernel
theorem dL_shares_138 : decode cL_shares 138 = .ok (.aload_n 0, 1) := by decide +kernel
theorem dL_shares_139 : decode cL_shares 139 = .ok (.iconst 0, 1) := by decide +kernel
theorem dL_shares_140 : decode cL_shares 140 = .ok (.invokevirtual 48, 3) := by decide +kernel
theorem dL_shares_143 : decode cL_shares 143 = .ok (.ifCond .ne 69, 3) := by decide +kernel
theorem dL_shares_146 : decode cL_shares 146 = .ok (.aload_n 0, 1) := by decide +kernel
theorem dL_shares_147 : decode cL_shares 147 = .ok (.bipush 11, 2) := by decide +kernel
theorem dL_shares_149 : decode cL_shares 149 = .ok (.iconst 0, 1) := by decide +kernel
theorem dL_shares_150 : decode cL_shares 150 = .ok (.iconst 0, 1) := by decide +kernel
theorem dL_shares_151 : decode cL_shares 151 = .ok (.iconst 0, 1) := by decide +kernel
theorem dL_shares_152 : decode cL_shares 152 = .ok (.iconst 0, 1) := by decide +kernel
theorem dL_shares_153 : decode cL_shares 153 = .ok (.invokestatic 83, 3) := by decide +kernel
theorem dL_shares_156 : decode cL_shares 156 = .ok (.ldc 68, 2) := by decide +kernel
theorem dL_shares_158 : decode cL_shares 158 = .ok (.if_icmp .ne 54, 3) := by decide +kernel
theorem dL_shares_161 : decode cL_shares 161 = .ok (.aload_n 0, 1) := by decide +kernel
theorem dL_shares_162 : decode cL_shares 162 = .ok (.iconst 5, 1) := by decide +kernel
theorem dL_shares_163 : decode cL_shares 163 = .ok (.iconst 0, 1) := by decide +kernel
theorem dL_shares_164 : decode cL_shares 164 = .ok (.iconst 0, 1) := by decide +kernel
theorem dL_shares_165 : decode cL_shares 165 = .ok (.iconst 0, 1) := by decide +kernel
theorem dL_shares_166 : decode cL_shares 166 = .ok (.iconst 0, 1) := by decide +kernel
theorem dL_shares_167 : decode cL_shares 167 = .ok (.invokestatic 83, 3) := by decide +kernel
theorem dL_shares_170 : decode cL_shares 170 = .ok (.ldc 68, 2) := by decide +kernel
theorem dL_shares_172 : decode cL_shares 172 = .ok (.if_icmp .ne 40, 3) := by decide +kernel
theorem dL_shares_175 : decode cL_shares 175 = .ok (.aload_n 0, 1) := by decide +kernel
theorem dL_shares_176 : decode cL_shares 176 = .ok (.bipush 6, 2) := by decide +kernel
theorem dL_shares_178 : decode cL_shares 178 = .ok (.iconst 0, 1) := by decide +kernel
theorem dL_shares_179 : decode cL_shares 179 = .ok (.iconst 5, 1) := by decide +kernel
theorem dL_shares_180 : decode cL_shares 180 = .ok (.iconst 0, 1) := by decide +kernel
theorem dL_shares_181 : decode cL_shares 181 = .ok (.iconst 0, 1) := by decide +kernel
theorem dL_shares_182 : decode cL_shares 182 = .ok (.invokestatic 83, 3) := by decide +kernel
theorem dL_shares_185 : decode cL_shares 185 = .ok (.ldc 68, 2) := by decide +kernel
theorem dL_shares_187 : decode cL_shares 187 = .ok (.if_icmp .ne 25, 3) := by decide +kernel
theorem dL_shares_190 : decode cL_shares 190 = .ok (.aload_n 0, 1) := by decide +kernel
theorem dL_shares_191 : decode cL_shares 191 = .ok (.bipush 7, 2) := by decide +kernel
theorem dL_shares_193 : decode cL_shares 193 = .ok (.iconst 0, 1) := by decide +kernel
theorem dL_shares_194 : decode cL_shares 194 = .ok (.iconst 5, 1) := by decide +kernel
theorem dL_shares_195 : decode cL_shares 195 = .ok (.iconst 0, 1) := by decide +kernel
theorem dL_shares_196 : decode cL_shares 196 = .ok (.iconst 0, 1) := by decide +kernel
theorem dL_shares_197 : decode cL_shares 197 = .ok (.invokestatic 83, 3) := by decide +kernel
theorem dL_shares_200 : decode cL_shares 200 = .ok (.ldc 68, 2) := by decide +kernel
theorem dL_shares_202 : decode cL_shares 202 = .ok (.if_icmp .ne 10, 3) := by decide +kernel
theorem dL_shares_205 : decode cL_shares 205 = .ok (.aload_n 0, 1) := by decide +kernel
theorem dL_shares_206 : decode cL_shares 206 = .ok (.invokestatic 97, 3) := by decide +kernel
theorem dL_shares_209 : decode cL_shares 209 = .ok (.ifCond .ne 5, 3) := by decide +kernel
theorem dL_shares_212 : decode cL_shares 212 = .ok (.iconst 0, 1) := by decide +kernel
theorem dL_shares_213 : decode cL_shares 213 = .ok (.ireturn, 1) := by decide +kernel
theorem dL_shares_214 : decode cL_shares 214 = .ok (.aload_n 0, 1) := by decide +kernel
theorem dL_shares_215 : decode cL_shares 215 = .ok (.iconst 0, 1) := by decide +kernel
theorem dL_shares_216 : decode cL_shares 216 = .ok (.bipush 100, 2) := by decide +kernel
theorem dL_shares_218 : decode cL_shares 218 = .ok (.bipush 32, 2) := by decide +kernel
theorem dL_shares_220 : decode cL_shares 220 = .ok (.bipush 10, 2) := by decide +kernel
theorem dL_shares_222 : decode cL_shares 222 = .ok (.invokevirtual 23, 3) := by decide +kernel
theorem dL_shares_225 : decode cL_shares 225 = .ok (.iconst 3, 1) := by decide +kernel
theorem dL_shares_226 : decode cL_shares 226 = .ok (.if_icmp .ne 179, 3) := by decide +kernel
theorem dL_shares_229 : decode cL_shares 229 = .ok (.aload_n 0, 1) := by decide +kernel
theorem dL_shares_230 : decode cL_shares 230 = .ok (.iconst 1, 1) := by decide +kernel
theorem dL_shares_231 : decode cL_shares 231 = .ok (.bipush 20, 2) := by decide +kernel
theorem dL_shares_233 : decode cL_shares 233 = .ok (.bipush 10, 2) := by decide +kernel
theorem dL_shares_235 : decode cL_shares 235 = .ok (.iconst 5, 1) := by decide +kernel
theorem dL_shares_236 : decode cL_shares 236 = .ok (.invokevirtual 23, 3) := by decide +kernel
theorem dL_shares_239 : decode cL_shares 239 = .ok (.iconst 3, 1) := by decide +kernel
theorem dL_shares_240 : decode cL_shares 240 = .ok (.if_icmp .ne 165, 3) := by decide +kernel
theorem dL_shares_243 : decode cL_shares 243 = .ok (.aload_n 0, 1) := by decide +kernel
theorem dL_shares_244 : decode cL_shares 244 = .ok (.iconst 2, 1) := by decide +kernel
theorem dL_shares_245 : decode cL_shares 245 = .ok (.sipush 300, 3) := by decide +kernel
theorem dL_shares_248 : decode cL_shares 248 = .ok (.bipush 32, 2) := by decide +kernel
theorem dL_shares_250 : decode cL_shares 250 = .ok (.bipush 9, 2) := by decide +kernel
theorem dL_shares_252 : decode cL_shares 252 = .ok (.invokevirtual 23, 3) := by decide +kernel
theorem dL_shares_255 : decode cL_shares 255 = .ok (.iconst (-1), 1) := by decide +kernel
theorem dL_shares_256 : decode cL_shares 256 = .ok (.if_icmp .ne 149, 3) := by decide +kernel
theorem dL_shares_259 : decode cL_shares 259 = .ok (.aload_n 0, 1) := by decide +kernel
theorem dL_shares_260 : decode cL_shares 260 = .ok (.iconst 3, 1) := by decide +kernel
theorem dL_shares_261 : decode cL_shares 261 = .ok (.bipush 90, 2) := by decide +kernel
theorem dL_shares_263 : decode cL_shares 263 = .ok (.bipush 32, 2) := by decide +kernel
theorem dL_shares_265 : decode cL_shares 265 = .ok (.iconst 4, 1) := by decide +kernel
theorem dL_shares_266 : decode cL_shares 266 = .ok (.invokevirtual 23, 3) := by decide +kernel
theorem dL_shares_269 : decode cL_shares 269 = .ok (.iconst 2, 1) := by decide +kernel
theorem dL_shares_270 : decode cL_shares 270 = .ok (.if_icmp .ne 135, 3) := by decide +kernel
theorem dL_shares_273 : decode cL_shares 273 = .ok (.aload_n 0, 1) := by decide +kernel
theorem dL_shares_274 : decode cL_shares 274 = .ok (.iconst 4, 1) := by decide +kernel
theorem dL_shares_275 : decode cL_shares 275 = .ok (.iconst 3, 1) := by decide +kernel
theorem dL_shares_276 : decode cL_shares 276 = .ok (.iconst 5, 1) := by decide +kernel
theorem dL_shares_277 : decode cL_shares 277 = .ok (.iconst 5, 1) := by decide +kernel
theorem dL_shares_278 : decode cL_shares 278 = .ok (.iconst 5, 1) := by decide +kernel
theorem dL_shares_279 : decode cL_shares 279 = .ok (.invokestatic 83, 3) := by decide +kernel
theorem dL_shares_282 : decode cL_shares 282 = .ok (.ldc 68, 2) := by decide +kernel
theorem dL_shares_284 : decode cL_shares 284 = .ok (.if_icmp .ne 121, 3) := by decide +kernel
theorem dL_shares_287 : decode cL_shares 287 = .ok (.aload_n 0, 1) := by decide +kernel
theorem dL_shares_288 : decode cL_shares 288 = .ok (.iconst 0, 1) := by decide +kernel
theorem dL_shares_289 : decode cL_shares 289 = .ok (.invokevirtual 48, 3) := by decide +kernel
theorem dL_shares_292 : decode cL_shares 292 = .ok (.bipush 16, 2) := by decide +kernel
theorem dL_shares_294 : decode cL_shares 294 = .ok (.if_icmp .ne 111, 3) := by decide +kernel
theorem dL_shares_297 : decode cL_shares 297 = .ok (.aload_n 0, 1) := by decide +kernel
theorem dL_shares_298 : decode cL_shares 298 = .ok (.iconst 1, 1) := by decide +kernel
theorem dL_shares_299 : decode cL_shares 299 = .ok (.invokevirtual 48, 3) := by decide +kernel
theorem dL_shares_302 : decode cL_shares 302 = .ok (.bipush 10, 2) := by decide +kernel
theorem dL_shares_304 : decode cL_shares 304 = .ok (.if_icmp .ne 101, 3) := by decide +kernel
theorem dL_shares_307 : decode cL_shares 307 = .ok (.aload_n 0, 1) := by decide +kernel
theorem dL_shares_308 : decode cL_shares 308 = .ok (.iconst 2, 1) := by decide +kernel
theorem dL_shares_309 : decode cL_shares 309 = .ok (.invokevirtual 48, 3) := by decide +kernel
theorem dL_shares_312 : decode cL_shares 312 = .ok (.bipush 32, 2) := by decide +kernel
theorem dL_shares_314 : decode cL_shares 314 = .ok (.if_icmp .ne 91, 3) := by decide +kernel
theorem dL_shares_317 : decode cL_shares 317 = .ok (.aload_n 0, 1) := by decide +kernel
theorem dL_shares_318 : decode cL_shares 318 = .ok (.iconst 3, 1) := by decide +kernel
theorem dL_shares_319 : decode cL_shares 319 = .ok (.invokevirtual 48, 3) := by decide +kernel
theorem dL_shares_322 : decode cL_shares 322 = .ok (.bipush 20, 2) := by decide +kernel
theorem dL_shares_324 : decode cL_shares 324 = .ok (.if_icmp .ne 81, 3) := by decide +kernel
theorem dL_shares_327 : decode cL_shares 327 = .ok (.aload_n 0, 1) := by decide +kernel
theorem dL_shares_328 : decode cL_shares 328 = .ok (.invokevirtual 93, 3) := by decide +kernel
theorem dL_shares_331 : decode cL_shares 331 = .ok (.ifCond .ne 74, 3) := by decide +kernel
theorem dL_shares_334 : decode cL_shares 334 = .ok (.aload_n 0, 1) := by decide +kernel
theorem dL_shares_335 : decode cL_shares 335 = .ok (.bipush 16, 2) := by decide +kernel
theorem dL_shares_337 : decode cL_shares 337 = .ok (.bipush 10, 2) := by decide +kernel
theorem dL_shares_339 : decode cL_shares 339 = .ok (.bipush 32, 2) := by decide +kernel
theorem dL_shares_341 : decode cL_shares 341 = .ok (.iconst 0, 1) := by decide +kernel
theorem dL_shares_342 : decode cL_shares 342 = .ok (.invokestatic 101, 3) := by decide +kernel
theorem dL_shares_345 : decode cL_shares 345 = .ok (.ifCond .eq 60, 3) := by decide +kernel
theorem dL_shares_348 : decode cL_shares 348 = .ok (.aload_n 0, 1) := by decide +kernel
theorem dL_shares_349 : decode cL_shares 349 = .ok (.bipush 26, 2) := by decide +kernel
theorem dL_shares_351 : decode cL_shares 351 = .ok (.bipush 32, 2) := by decide +kernel
theorem dL_shares_353 : decode cL_shares 353 = .ok (.iconst 0, 1) := by decide +kernel
theorem dL_shares_354 : decode cL_shares 354 = .ok (.bipush 32, 2) := by decide +kernel
theorem dL_shares_356 : decode cL_shares 356 = .ok (.invokestatic 105, 3) := by decide +kernel
theorem dL_shares_359 : decode cL_shares 359 = .ok (.ifCond .eq 46, 3) := by decide +kernel
theorem dL_shares_362 : decode cL_shares 362 = .ok (.aload_n 0, 1) := by decide +kernel
theorem dL_shares_363 : decode cL_shares 363 = .ok (.invokevirtual 79, 3) := by decide +kernel
theorem dL_shares_366 : decode cL_shares 366 = .ok (.bipush 8, 2) := by decide +kernel
theorem dL_shares_368 : decode cL_shares 368 = .ok (.if_icmp .ne 37, 3) := by decide +kernel
theorem dL_shares_371 : decode cL_shares 371 = .ok (.aload_n 0, 1) := by decide +kernel
theorem dL_shares_372 : decode cL_shares 372 = .ok (.iconst 0, 1) := by decide +kernel
theorem dL_shares_373 : decode cL_shares 373 = .ok (.invokevirtual 57, 3) := by decide +kernel
theorem dL_shares_376 : decode cL_shares 376 = .ok (.iconst (-1), 1) := by decide +kernel
theorem dL_shares_377 : decode cL_shares 377 = .ok (.if_icmp .ne 28, 3) := by decide +kernel
theorem dL_shares_380 : decode cL_shares 380 = .ok (.aload_n 0, 1) := by decide +kernel
theorem dL_shares_381 : decode cL_shares 381 = .ok (.iconst 1, 1) := by decide +kernel
theorem dL_shares_382 : decode cL_shares 382 = .ok (.invokevirtual 57, 3) := by decide +kernel
theorem dL_shares_385 : decode cL_shares 385 = .ok (.iconst (-1), 1) := by decide +kernel
theorem dL_shares_386 : decode cL_shares 386 = .ok (.if_icmp .ne 19, 3) := by decide +kernel
theorem dL_shares_389 : decode cL_shares 389 = .ok (.aload_n 0, 1) := by decide +kernel
theorem dL_shares_390 : decode cL_shares 390 = .ok (.iconst 2, 1) := by decide +kernel
theorem dL_shares_391 : decode cL_shares 391 = .ok (.invokevirtual 57, 3) := by decide +kernel
theorem dL_shares_394 : decode cL_shares 394 = .ok (.iconst (-1), 1) := by decide +kernel
theorem dL_shares_395 : decode cL_shares 395 = .ok (.if_icmp .ne 10, 3) := by decide +kernel
theorem dL_shares_398 : decode cL_shares 398 = .ok (.aload_n 0, 1) := by decide +kernel
theorem dL_shares_399 : decode cL_shares 399 = .ok (.invokestatic 97, 3) := by decide +kernel
theorem dL_shares_402 : decode cL_shares 402 = .ok (.ifCond .ne 5, 3) := by decide +kernel
theorem dL_shares_405 : decode cL_shares 405 = .ok (.iconst 0, 1) := by decide +kernel
theorem dL_shares_406 : decode cL_shares 406 = .ok (.ireturn, 1) := by decide +kernel
theorem dL_shares_407 : decode cL_shares 407 = .ok (.aload_n 0, 1) := by decide +kernel
theorem dL_shares_408 : decode cL_shares 408 = .ok (.iconst 1, 1) := by decide +kernel
theorem dL_shares_409 : decode cL_shares 409 = .ok (.invokevirtual 20, 3) := by decide +kernel
theorem dL_shares_412 : decode cL_shares 412 = .ok (.ifCond .ne 255, 3) := by decide +kernel
theorem dL_shares_415 : decode cL_shares 415 = .ok (.aload_n 0, 1) := by decide +kernel
theorem dL_shares_416 : decode cL_shares 416 = .ok (.bipush 11, 2) := by decide +kernel
theorem dL_shares_418 : decode cL_shares 418 = .ok (.bipush 10, 2) := by decide +kernel
theorem dL_shares_420 : decode cL_shares 420 = .ok (.bipush 21, 2) := by decide +kernel
theorem dL_shares_422 : decode cL_shares 422 = .ok (.bipush 11, 2) := by decide +kernel
theorem dL_shares_424 : decode cL_shares 424 = .ok (.invokestatic 101, 3) := by decide +kernel
theorem dL_shares_427 : decode cL_shares 427 = .ok (.ifCond .eq 240, 3) := by decide +kernel
theorem dL_shares_430 : decode cL_shares 430 = .ok (.aload_n 0, 1) := by decide +kernel
theorem dL_shares_431 : decode cL_shares 431 = .ok (.bipush 32, 2) := by decide +kernel
theorem dL_shares_433 : decode cL_shares 433 = .ok (.bipush 32, 2) := by decide +kernel
theorem dL_shares_435 : decode cL_shares 435 = .ok (.bipush 11, 2) := by decide +kernel
theorem dL_shares_437 : decode cL_shares 437 = .ok (.bipush 21, 2) := by decide +kernel
theorem dL_shares_439 : decode cL_shares 439 = .ok (.invokestatic 105, 3) := by decide +kernel
theorem dL_shares_442 : decode cL_shares 442 = .ok (.ifCond .eq 225, 3) := by decide +kernel
theorem dL_shares_445 : decode cL_shares 445 = .ok (.aload_n 0, 1) := by decide +kernel
theorem dL_shares_446 : decode cL_shares 446 = .ok (.invokevirtual 79, 3) := by decide +kernel
theorem dL_shares_449 : decode cL_shares 449 = .ok (.bipush 13, 2) := by decide +kernel
theorem dL_shares_451 : decode cL_shares 451 = .ok (.if_icmp .ne 216, 3) := by decide +kernel
theorem dL_shares_454 : decode cL_shares 454 = .ok (.aload_n 0, 1) := by decide +kernel
theorem dL_shares_455 : decode cL_shares 455 = .ok (.iconst 0, 1) := by decide +kernel
theorem dL_shares_456 : decode cL_shares 456 = .ok (.invokevirtual 57, 3) := by decide +kernel
theorem dL_shares_459 : decode cL_shares 459 = .ok (.sipush 11000, 3) := by decide +kernel
theorem dL_shares_462 : decode cL_shares 462 = .ok (.if_icmp .ne 205, 3) := by decide +kernel
theorem dL_shares_465 : decode cL_shares 465 = .ok (.aload_n 0, 1) := by decide +kernel
theorem dL_shares_466 : decode cL_shares 466 = .ok (.iconst 1, 1) := by decide +kernel
theorem dL_shares_467 : decode cL_shares 467 = .ok (.invokevirtual 57, 3) := by decide +kernel
theorem dL_shares_470 : decode cL_shares 470 = .ok (.sipush 21000, 3) := by decide +kernel
theorem dL_shares_473 : decode cL_shares 473 = .ok (.if_icmp .ne 194, 3) := by decide +kernel
theorem dL_shares_476 : decode cL_shares 476 = .ok (.aload_n 0, 1) := by decide +kernel
theorem dL_shares_477 : decode cL_shares 477 = .ok (.bipush 10, 2) := by decide +kernel
theorem dL_shares_479 : decode cL_shares 479 = .ok (.invokevirtual 16, 3) := by decide +kernel
theorem dL_shares_482 : decode cL_shares 482 = .ok (.bipush 100, 2) := by decide +kernel
theorem dL_shares_484 : decode cL_shares 484 = .ok (.if_icmp .ne 183, 3) := by decide +kernel
theorem dL_shares_487 : decode cL_shares 487 = .ok (.aload_n 0, 1) := by decide +kernel
theorem dL_shares_488 : decode cL_shares 488 = .ok (.iconst 5, 1) := by decide +kernel
theorem dL_shares_489 : decode cL_shares 489 = .ok (.iconst 5, 1) := by decide +kernel
theorem dL_shares_490 : decode cL_shares 490 = .ok (.bipush 10, 2) := by decide +kernel
theorem dL_shares_492 : decode cL_shares 492 = .ok (.bipush 11, 2) := by decide +kernel
theorem dL_shares_494 : decode cL_shares 494 = .ok (.invokestatic 101, 3) := by decide +kernel
theorem dL_shares_497 : decode cL_shares 497 = .ok (.ifCond .eq 170, 3) := by decide +kernel
theorem dL_shares_500 : decode cL_shares 500 = .ok (.aload_n 0, 1) := by decide +kernel
theorem dL_shares_501 : decode cL_shares 501 = .ok (.bipush 21, 2) := by decide +kernel
theorem dL_shares_503 : decode cL_shares 503 = .ok (.bipush 21, 2) := by decide +kernel
theorem dL_shares_505 : decode cL_shares 505 = .ok (.bipush 11, 2) := by decide +kernel
theorem dL_shares_507 : decode cL_shares 507 = .ok (.bipush 10, 2) := by decide +kernel
theorem dL_shares_509 : decode cL_shares 509 = .ok (.invokestatic 105, 3) := by decide +kernel
theorem dL_shares_512 : decode cL_shares 512 = .ok (.ifCond .eq 155, 3) := by decide +kernel
theorem dL_shares_515 : decode cL_shares 515 = .ok (.aload_n 0, 1) := by decide +kernel
theorem dL_shares_516 : decode cL_shares 516 = .ok (.invokevirtual 79, 3) := by decide +kernel
theorem dL_shares_519 : decode cL_shares 519 = .ok (.bipush 15, 2) := by decide +kernel
theorem dL_shares_521 : decode cL_shares 521 = .ok (.if_icmp .ne 146, 3) := by decide +kernel
theorem dL_shares_524 : decode cL_shares 524 = .ok (.aload_n 0, 1) := by decide +kernel
theorem dL_shares_525 : decode cL_shares 525 = .ok (.iconst 0, 1) := by decide +kernel
theorem dL_shares_526 : decode cL_shares 526 = .ok (.invokevirtual 57, 3) := by decide +kernel
theorem dL_shares_529 : decode cL_shares 529 = .ok (.sipush 11000, 3) := by decide +kernel
theorem dL_shares_532 : decode cL_shares 532 = .ok (.if_icmp .ne 135, 3) := by decide +kernel
theorem dL_shares_535 : decode cL_shares 535 = .ok (.aload_n 0, 1) := by decide +kernel
theorem dL_shares_536 : decode cL_shares 536 = .ok (.iconst 0, 1) := by decide +kernel
theorem dL_shares_537 : decode cL_shares 537 = .ok (.invokevirtual 16, 3) := by decide +kernel
theorem dL_shares_540 : decode cL_shares 540 = .ok (.bipush 10, 2) := by decide +kernel
theorem dL_shares_542 : decode cL_shares 542 = .ok (.if_icmp .ne 125, 3) := by decide +kernel
theorem dL_shares_545 : decode cL_shares 545 = .ok (.aload_n 0, 1) := by decide +kernel
theorem dL_shares_546 : decode cL_shares 546 = .ok (.iconst 0, 1) := by decide +kernel
theorem dL_shares_547 : decode cL_shares 547 = .ok (.iconst 0, 1) := by decide +kernel
theorem dL_shares_548 : decode cL_shares 548 = .ok (.iconst 0, 1) := by decide +kernel
theorem dL_shares_549 : decode cL_shares 549 = .ok (.bipush 11, 2) := by decide +kernel
theorem dL_shares_551 : decode cL_shares 551 = .ok (.invokestatic 101, 3) := by decide +kernel
theorem dL_shares_554 : decode cL_shares 554 = .ok (.ifCond .eq 113, 3) := by decide +kernel
theorem dL_shares_557 : decode cL_shares 557 = .ok (.aload_n 0, 1) := by decide +kernel
theorem dL_shares_558 : decode cL_shares 558 = .ok (.bipush 11, 2) := by decide +kernel
theorem dL_shares_560 : decode cL_shares 560 = .ok (.bipush 11, 2) := by decide +kernel
theorem dL_shares_562 : decode cL_shares 562 = .ok (.bipush 11, 2) := by decide +kernel
theorem dL_shares_564 : decode cL_shares 564 = .ok (.iconst 0, 1) := by decide +kernel
theorem dL_shares_565 : decode cL_shares 565 = .ok (.invokestatic 105, 3) := by decide +kernel
theorem dL_shares_568 : decode cL_shares 568 = .ok (.ifCond .eq 99, 3) := by decide +kernel
theorem dL_shares_571 : decode cL_shares 571 = .ok (.aload_n 0, 1) := by decide +kernel
theorem dL_shares_572 : decode cL_shares 572 = .ok (.bipush 10, 2) := by decide +kernel
theorem dL_shares_574 : decode cL_shares 574 = .ok (.invokevirtual 16, 3) := by decide +kernel
theorem dL_shares_577 : decode cL_shares 577 = .ok (.ifCond .ne 90, 3) := by decide +kernel
theorem dL_shares_580 : decode cL_shares 580 = .ok (.aload_n 0, 1) := by decide +kernel
theorem dL_shares_581 : decode cL_shares 581 = .ok (.iconst 1, 1) := by decide +kernel
theorem dL_shares_582 : decode cL_shares 582 = .ok (.invokevirtual 36, 3) := by decide +kernel
theorem dL_shares_585 : decode cL_shares 585 = .ok (.bipush 53, 2) := by decide +kernel
theorem dL_shares_587 : decode cL_shares 587 = .ok (.if_icmp .ne 80, 3) := by decide +kernel
theorem dL_shares_590 : decode cL_shares 590 = .ok (.aload_n 0, 1) := by decide +kernel
theorem dL_shares_591 : decode cL_shares 591 = .ok (.invokevirtual 73, 3) := by decide +kernel
theorem dL_shares_594 : decode cL_shares 594 = .ok (.bipush 51, 2) := by decide +kernel
theorem dL_shares_596 : decode cL_shares 596 = .ok (.if_icmp .ne 71, 3) := by decide +kernel
theorem dL_shares_599 : decode cL_shares 599 = .ok (.aload_n 0, 1) := by decide +kernel
theorem dL_shares_600 : decode cL_shares 600 = .ok (.iconst 0, 1) := by decide +kernel
theorem dL_shares_601 : decode cL_shares 601 = .ok (.invokevirtual 39, 3) := by decide +kernel
theorem dL_shares_604 : decode cL_shares 604 = .ok (.bipush 95, 2) := by decide +kernel
theorem dL_shares_606 : decode cL_shares 606 = .ok (.if_icmp .ne 61, 3) := by decide +kernel
theorem dL_shares_609 : decode cL_shares 609 = .ok (.aload_n 0, 1) := by decide +kernel
theorem dL_shares_610 : decode cL_shares 610 = .ok (.iconst 1, 1) := by decide +kernel
theorem dL_shares_611 : decode cL_shares 611 = .ok (.invokevirtual 39, 3) := by decide +kernel
theorem dL_shares_614 : decode cL_shares 614 = .ok (.bipush 15, 2) := by decide +kernel
theorem dL_shares_616 : decode cL_shares 616 = .ok (.if_icmp .ne 51, 3) := by decide +kernel
theorem dL_shares_619 : decode cL_shares 619 = .ok (.aload_n 0, 1) := by decide +kernel
theorem dL_shares_620 : decode cL_shares 620 = .ok (.iconst 2, 1) := by decide +kernel
theorem dL_shares_621 : decode cL_shares 621 = .ok (.invokevirtual 39, 3) := by decide +kernel
theorem dL_shares_624 : decode cL_shares 624 = .ok (.sipush 290, 3) := by decide +kernel
theorem dL_shares_627 : decode cL_shares 627 = .ok (.if_icmp .ne 40, 3) := by decide +kernel
theorem dL_shares_630 : decode cL_shares 630 = .ok (.aload_n 0, 1) := by decide +kernel
theorem dL_shares_631 : decode cL_shares 631 = .ok (.iconst 3, 1) := by decide +kernel
theorem dL_shares_632 : decode cL_shares 632 = .ok (.invokevirtual 39, 3) := by decide +kernel
theorem dL_shares_635 : decode cL_shares 635 = .ok (.bipush 57, 2) := by decide +kernel
theorem dL_shares_637 : decode cL_shares 637 = .ok (.if_icmp .ne 30, 3) := by decide +kernel
theorem dL_shares_640 : decode cL_shares 640 = .ok (.aload_n 0, 1) := by decide +kernel
theorem dL_shares_641 : decode cL_shares 641 = .ok (.invokevirtual 76, 3) := by decide +kernel
theorem dL_shares_644 : decode cL_shares 644 = .ok (.bipush 53, 2) := by decide +kernel
theorem dL_shares_646 : decode cL_shares 646 = .ok (.if_icmp .ne 21, 3) := by decide +kernel
theorem dL_shares_649 : decode cL_shares 649 = .ok (.aload_n 0, 1) := by decide +kernel
theorem dL_shares_650 : decode cL_shares 650 = .ok (.iconst 3, 1) := by decide +kernel
theorem dL_shares_651 : decode cL_shares 651 = .ok (.invokevirtual 42, 3) := by decide +kernel
theorem dL_shares_654 : decode cL_shares 654 = .ok (.iconst 3, 1) := by decide +kernel
theorem dL_shares_655 : decode cL_shares 655 = .ok (.if_icmp .ne 12, 3) := by decide +kernel
theorem dL_shares_658 : decode cL_shares 658 = .ok (.aload_n 0, 1) := by decide +kernel
theorem dL_shares_659 : decode cL_shares 659 = .ok (.iconst 3, 1) := by decide +kernel
theorem dL_shares_660 : decode cL_shares 660 = .ok (.invokevirtual 45, 3) := by decide +kernel
theorem dL_shares_663 : decode cL_shares 663 = .ok (.iconst 2, 1) := by decide +kernel
theorem dL_shares_664 : decode cL_shares 664 = .ok (.if_icmp .eq 5, 3) := by decide +kernel
theorem dL_shares_667 : decode cL_shares 667 = .ok (.iconst 0, 1) := by decide +kernel
theorem dL_shares_668 : decode cL_shares 668 = .ok (.ireturn, 1) := by decide +kernel
theorem dL_shares_669 : decode cL_shares 669 = .ok (.aload_n 0, 1) := by decide +kernel
theorem dL_shares_670 : decode cL_shares 670 = .ok (.bipush 100, 2) := by decide +kernel
theorem dL_shares_672 : decode cL_shares 672 = .ok (.invokevirtual 16, 3) := by decide +kernel
theorem dL_shares_675 : decode cL_shares 675 = .ok (.bipush 10, 2) := by decide +kernel
theorem dL_shares_677 : decode cL_shares 677 = .ok (.if_icmp .ne 134, 3) := by decide +kernel
theorem dL_shares_680 : decode cL_shares 680 = .ok (.aload_n 0, 1) := by decide +kernel
theorem dL_shares_681 : decode cL_shares 681 = .ok (.iconst 0, 1) := by decide +kernel
theorem dL_shares_682 : decode cL_shares 682 = .ok (.bipush 7, 2) := by decide +kernel
theorem dL_shares_684 : decode cL_shares 684 = .ok (.invokevirtual 13, 3) := by decide +kernel
theorem dL_shares_687 : decode cL_shares 687 = .ok (.bipush 32, 2) := by decide +kernel
theorem dL_shares_689 : decode cL_shares 689 = .ok (.if_icmp .ne 122, 3) := by decide +kernel
theorem dL_shares_692 : decode cL_shares 692 = .ok (.aload_n 0, 1) := by decide +kernel
theorem dL_shares_693 : decode cL_shares 693 = .ok (.iconst 3, 1) := by decide +kernel
theorem dL_shares_694 : decode cL_shares 694 = .ok (.iconst 2, 1) := by decide +kernel
theorem dL_shares_695 : decode cL_shares 695 = .ok (.bipush 30, 2) := by decide +kernel
theorem dL_shares_697 : decode cL_shares 697 = .ok (.iconst 2, 1) := by decide +kernel
theorem dL_shares_698 : decode cL_shares 698 = .ok (.invokestatic 101, 3) := by decide +kernel
theorem dL_shares_701 : decode cL_shares 701 = .ok (.ifCond .eq 110, 3) := by decide +kernel
theorem dL_shares_704 : decode cL_shares 704 = .ok (.aload_n 0, 1) := by decide +kernel
theorem dL_shares_705 : decode cL_shares 705 = .ok (.bipush 7, 2) := by decide +kernel
theorem dL_shares_707 : decode cL_shares 707 = .ok (.bipush 32, 2) := by decide +kernel
theorem dL_shares_709 : decode cL_shares 709 = .ok (.iconst 2, 1) := by decide +kernel
theorem dL_shares_710 : decode cL_shares 710 = .ok (.bipush 30, 2) := by decide +kernel
theorem dL_shares_712 : decode cL_shares 712 = .ok (.invokestatic 105, 3) := by decide +kernel
theorem dL_shares_715 : decode cL_shares 715 = .ok (.ifCond .eq 96, 3) := by decide +kernel
theorem dL_shares_718 : decode cL_shares 718 = .ok (.aload_n 0, 1) := by decide +kernel
theorem dL_shares_719 : decode cL_shares 719 = .ok (.iconst 0, 1) := by decide +kernel
theorem dL_shares_720 : decode cL_shares 720 = .ok (.invokevirtual 57, 3) := by decide +kernel
theorem dL_shares_723 : decode cL_shares 723 = .ok (.sipush 2500, 3) := by decide +kernel
theorem dL_shares_726 : decode cL_shares 726 = .ok (.if_icmp .ne 85, 3) := by decide +kernel
theorem dL_shares_729 : decode cL_shares 729 = .ok (.aload_n 0, 1) := by decide +kernel
theorem dL_shares_730 : decode cL_shares 730 = .ok (.iconst 1, 1) := by decide +kernel
theorem dL_shares_731 : decode cL_shares 731 = .ok (.iconst 0, 1) := by decide +kernel
theorem dL_shares_732 : decode cL_shares 732 = .ok (.invokevirtual 13, 3) := by decide +kernel
theorem dL_shares_735 : decode cL_shares 735 = .ok (.bipush 32, 2) := by decide +kernel
theorem dL_shares_737 : decode cL_shares 737 = .ok (.if_icmp .ne 74, 3) := by decide +kernel
theorem dL_shares_740 : decode cL_shares 740 = .ok (.aload_n 0, 1) := by decide +kernel
theorem dL_shares_741 : decode cL_shares 741 = .ok (.iconst 4, 1) := by decide +kernel
theorem dL_shares_742 : decode cL_shares 742 = .ok (.iconst 3, 1) := by decide +kernel
theorem dL_shares_743 : decode cL_shares 743 = .ok (.iconst 0, 1) := by decide +kernel
theorem dL_shares_744 : decode cL_shares 744 = .ok (.iconst 0, 1) := by decide +kernel
theorem dL_shares_745 : decode cL_shares 745 = .ok (.invokestatic 101, 3) := by decide +kernel
theorem dL_shares_748 : decode cL_shares 748 = .ok (.ifCond .eq 63, 3) := by decide +kernel
theorem dL_shares_751 : decode cL_shares 751 = .ok (.aload_n 0, 1) := by decide +kernel
theorem dL_shares_752 : decode cL_shares 752 = .ok (.iconst 1, 1) := by decide +kernel
theorem dL_shares_753 : decode cL_shares 753 = .ok (.invokevirtual 57, 3) := by decide +kernel
theorem dL_shares_756 : decode cL_shares 756 = .ok (.ifCond .ne 55, 3) := by decide +kernel
theorem dL_shares_759 : decode cL_shares 759 = .ok (.aload_n 0, 1) := by decide +kernel
theorem dL_shares_760 : decode cL_shares 760 = .ok (.iconst 0, 1) := by decide +kernel
theorem dL_shares_761 : decode cL_shares 761 = .ok (.invokevirtual 57, 3) := by decide +kernel
theorem dL_shares_764 : decode cL_shares 764 = .ok (.sipush 3500, 3) := by decide +kernel
theorem dL_shares_767 : decode cL_shares 767 = .ok (.if_icmp .ne 44, 3) := by decide +kernel
theorem dL_shares_770 : decode cL_shares 770 = .ok (.aload_n 0, 1) := by decide +kernel
theorem dL_shares_771 : decode cL_shares 771 = .ok (.iconst 0, 1) := by decide +kernel
theorem dL_shares_772 : decode cL_shares 772 = .ok (.invokevirtual 20, 3) := by decide +kernel
theorem dL_shares_775 : decode cL_shares 775 = .ok (.iconst 1, 1) := by decide +kernel
theorem dL_shares_776 : decode cL_shares 776 = .ok (.if_icmp .ne 35, 3) := by decide +kernel
theorem dL_shares_779 : decode cL_shares 779 = .ok (.aload_n 0, 1) := by decide +kernel
theorem dL_shares_780 : decode cL_shares 780 = .ok (.iconst 0, 1) := by decide +kernel
theorem dL_shares_781 : decode cL_shares 781 = .ok (.bipush 7, 2) := by decide +kernel
theorem dL_shares_783 : decode cL_shares 783 = .ok (.iconst 0, 1) := by decide +kernel
theorem dL_shares_784 : decode cL_shares 784 = .ok (.iconst 0, 1) := by decide +kernel
theorem dL_shares_785 : decode cL_shares 785 = .ok (.invokestatic 101, 3) := by decide +kernel
theorem dL_shares_788 : decode cL_shares 788 = .ok (.ifCond .eq 23, 3) := by decide +kernel
theorem dL_shares_791 : decode cL_shares 791 = .ok (.aload_n 0, 1) := by decide +kernel
theorem dL_shares_792 : decode cL_shares 792 = .ok (.invokevirtual 79, 3) := by decide +kernel
theorem dL_shares_795 : decode cL_shares 795 = .ok (.bipush 15, 2) := by decide +kernel
theorem dL_shares_797 : decode cL_shares 797 = .ok (.if_icmp .ne 14, 3) := by decide +kernel
theorem dL_shares_800 : decode cL_shares 800 = .ok (.aload_n 0, 1) := by decide +kernel
theorem dL_shares_801 : decode cL_shares 801 = .ok (.invokestatic 97, 3) := by decide +kernel
theorem dL_shares_804 : decode cL_shares 804 = .ok (.ifCond .eq 7, 3) := by decide +kernel
theorem dL_shares_807 : decode cL_shares 807 = .ok (.iconst 1, 1) := by decide +kernel
theorem dL_shares_808 : decode cL_shares 808 = .ok (.goto 4, 3) := by decide +kernel
theorem dL_shares_811 : decode cL_shares 811 = .ok (.iconst 0, 1) := by decide +kernel
theorem dL_shares_812 : decode cL_shares 812 = .ok (.ireturn, 1) := by decide +kernel
set_option maxRecDepth 20000 in
theorem ggL_cars_X0_init : GoodIn wsL_cars wsX0_init := goodIn_r _ [6, 7, 8, 9, 10, 11, 12, 13, 14, 15, 16, 17, 18, 19, 20, 21, 22, 251, 252, 253, 254, 255, 256, 257, 258, 259, 260, 261, 262, 263, 264, 265, 266] (by decide +kernel) (by decide +kernel)
set_option maxRecDepth 20000 in
theorem gL_cars_X0_init : GoodIn wsL_cars (wsX0_init) := ggL_cars_X0_init
set_option maxRecDepth 20000 in
theorem ggL_cars_X0_point : GoodIn wsL_cars wsX0_point := goodIn_ca (goodIn_ca (goodIn_r _ [26, 27, 28, 29, 11, 12, 13, 30, 31, 3, 32, 33, 34, 35, 36, 37, 251, 252, 253, 254, 255, 256, 257, 258, 259, 260, 261, 262, 263, 264, 265, 266] (by decide +kernel) (by decide +kernel)) (goodIn_sub (fun _ h => List.mem_cons_of_mem _ (List.mem_append_left _ (List.mem_append_left _ (List.mem_append_right _ h)))) (by decide +kernel))) (goodIn_sub (fun _ h => List.mem_cons_of_mem _ (List.mem_append_left _ (List.mem_append_right _ h))) (by decide +kernel))
set_option maxRecDepth 20000 in
theorem gL_cars_X0_point : GoodIn wsL_cars (wsV RL 7 RX0 yX0_point wsX0_point) := goodIn_app (goodIn_of _ (by decide +kernel)) ggL_cars_X0_point
set_option maxRecDepth 20000 in
theorem ggL_cars_X0_plugIn : GoodIn wsL_cars wsX0_plugIn := goodIn_ca (goodIn_ca (goodIn_ca (goodIn_r _ [41, 27, 28, 13, 14, 15, 42, 43, 44, 45, 3, 46, 47, 48, 29, 35, 36, 37, 33, 34, 49, 50, 51, 52, 53, 54, 55, 56, 57, 58, 59, 60, 12, 61, 62, 63, 64, 65, 66, 67, 68, 11, 69, 70, 71, 72, 73, 74, 75, 76, 77, 78, 251, 252, 253, 254, 255, 256, 257, 258, 259, 260, 261, 262, 263, 264, 265, 266] (by decide +kernel) (by decide +kernel)) (goodIn_sub (fun _ h => List.mem_cons_of_mem _ (List.mem_append_left _ (List.mem_append_left _ (List.mem_append_right _ h)))) (by decide +kernel))) (goodIn_sub (fun _ h => List.mem_cons_of_mem _ (List.mem_append_right _ h)) (by decide +kernel))) (goodIn_sub (fun _ h => List.mem_cons_of_mem _ (List.mem_append_left _ (List.mem_append_right _ h))) (by decide +kernel))
set_option maxRecDepth 20000 in
theorem gL_cars_X0_plugIn : GoodIn wsL_cars (wsV RL 23 RX0 yX0_plugIn wsX0_plugIn) := goodIn_app (goodIn_of _ (by decide +kernel)) ggL_cars_X0_plugIn
set_option maxRecDepth 20000 in
theorem ggL_cars_X0_reach : GoodIn wsL_cars wsX0_reach := goodIn_ca (goodIn_r _ [82, 43, 44, 45, 3, 46, 47, 48, 29, 83, 84, 85, 86, 13, 61, 62, 63, 64, 87, 88, 89, 90, 15, 42, 65, 66, 67, 68, 11, 76, 77, 78, 57, 58, 59, 60, 12, 14, 251, 252, 253, 254, 255, 256, 257, 258, 259, 260, 261, 262, 263, 264, 265, 266] (by decide +kernel) (by decide +kernel)) (goodIn_sub (fun _ h => List.mem_cons_of_mem _ (List.mem_append_right _ h)) (by decide +kernel))
set_option maxRecDepth 20000 in
theorem gL_cars_X0_reach : GoodIn wsL_cars (wsV RL 48 RX0 yX0_reach wsX0_reach) := goodIn_app (goodIn_of _ (by decide +kernel)) ggL_cars_X0_reach
set_option maxRecDepth 20000 in
theorem ggL_cars_X0_canBeReady : GoodIn wsL_cars wsX0_canBeReady := goodIn_r _ [94, 29, 13, 53, 54, 55, 3, 56, 57, 58, 59, 60, 12, 14, 61, 62, 63, 64, 65, 66, 67, 68, 11, 69, 70, 71, 72, 15, 42, 73, 74, 75, 76, 77, 78, 251, 252, 253, 254, 255, 256, 257, 258, 259, 260, 261, 262, 263, 264, 265, 266] (by decide +kernel) (by decide +kernel)
set_option maxRecDepth 20000 in
theorem gL_cars_X0_canBeReady : GoodIn wsL_cars (wsV RL 93 RX0 yX0_canBeReady wsX0_canBeReady) := goodIn_app (goodIn_of _ (by decide +kernel)) ggL_cars_X0_canBeReady
set_option maxRecDepth 20000 in
theorem ggL_cars_X0_step : GoodIn wsL_cars wsX0_step := goodIn_ca (goodIn_r _ [98, 99, 42, 35, 36, 3, 37, 33, 34, 100, 101, 102, 103, 22, 104, 105, 106, 107, 29, 17, 16, 19, 83, 84, 85, 86, 13, 61, 62, 63, 64, 87, 88, 89, 90, 15, 65, 66, 67, 68, 11, 76, 77, 78, 57, 58, 59, 60, 12, 14, 108, 109, 110, 111, 112, 113, 114, 115, 116, 117, 118, 119, 20, 120, 121, 122, 123, 124, 125, 126, 127, 128, 129, 130, 131, 18, 132, 133, 134, 135, 53, 54, 55, 56, 69, 70, 71, 72, 73, 74, 75, 136, 137, 138, 139, 21, 140, 141, 142, 143, 144, 145, 146, 147, 148, 149, 150, 151, 152, 153, 154, 155, 251, 252, 253, 254, 255, 256, 257, 258, 259, 260, 261, 262, 263, 264, 265, 266] (by decide +kernel) (by decide +kernel)) (goodIn_sub (fun _ h => List.mem_cons_of_mem _ (List.mem_append_left _ (List.mem_append_right _ h))) (by decide +kernel))
set_option maxRecDepth 20000 in
theorem gL_cars_X0_step : GoodIn wsL_cars (wsV RL 36 RX0 yX0_step wsX0_step) := goodIn_app (goodIn_of _ (by decide +kernel)) ggL_cars_X0_step
set_option maxRecDepth 20000 in
theorem ggL_cars_X0_need : GoodIn wsL_cars wsX0_need := goodIn_ca (goodIn_r _ [159, 13, 43, 44, 45, 3, 46, 47, 48, 29, 251, 252, 253, 254, 255, 256, 257, 258, 259, 260, 261, 262, 263, 264, 265, 266] (by decide +kernel) (by decide +kernel)) (goodIn_sub (fun _ h => List.mem_cons_of_mem _ (List.mem_append_right _ h)) (by decide +kernel))
set_option maxRecDepth 20000 in
theorem gL_cars_X0_need : GoodIn wsL_cars (wsV RL 39 RX0 yX0_need wsX0_need) := goodIn_app (goodIn_of _ (by decide +kernel)) ggL_cars_X0_need
set_option maxRecDepth 20000 in
theorem ggL_cars_X0_left : GoodIn wsL_cars wsX0_left := goodIn_ca (goodIn_r _ [163, 43, 44, 45, 3, 46, 47, 48, 29, 49, 50, 51, 52, 13, 69, 70, 71, 72, 15, 42, 73, 74, 63, 75, 251, 252, 253, 254, 255, 256, 257, 258, 259, 260, 261, 262, 263, 264, 265, 266] (by decide +kernel) (by decide +kernel)) (goodIn_sub (fun _ h => List.mem_cons_of_mem _ (List.mem_append_right _ h)) (by decide +kernel))
set_option maxRecDepth 20000 in
theorem gL_cars_X0_left : GoodIn wsL_cars (wsV RL 42 RX0 yX0_left wsX0_left) := goodIn_app (goodIn_of _ (by decide +kernel)) ggL_cars_X0_left
set_option maxRecDepth 20000 in
theorem ggL_cars_X0_laxity : GoodIn wsL_cars wsX0_laxity := goodIn_ca (goodIn_ca (goodIn_r _ [167, 43, 44, 45, 3, 46, 47, 48, 29, 168, 169, 170, 171, 27, 28, 49, 50, 51, 52, 13, 53, 54, 55, 56, 57, 58, 59, 60, 12, 14, 61, 62, 63, 64, 65, 66, 67, 68, 11, 69, 70, 71, 72, 15, 42, 73, 74, 75, 76, 77, 78, 251, 252, 253, 254, 255, 256, 257, 258, 259, 260, 261, 262, 263, 264, 265, 266] (by decide +kernel) (by decide +kernel)) (goodIn_sub (fun _ h => List.mem_cons_of_mem _ (List.mem_append_right _ h)) (by decide +kernel))) (goodIn_sub (fun _ h => List.mem_cons_of_mem _ (List.mem_append_left _ (List.mem_append_left _ (List.mem_append_right _ h)))) (by decide +kernel))
set_option maxRecDepth 20000 in
theorem gL_cars_X0_laxity : GoodIn wsL_cars (wsV RL 45 RX0 yX0_laxity wsX0_laxity) := goodIn_app (goodIn_of _ (by decide +kernel)) ggL_cars_X0_laxity
set_option maxRecDepth 20000 in
theorem ggL_cars_X0_load : GoodIn wsL_cars wsX0_load := goodIn_ca (goodIn_r _ [175, 19, 30, 31, 3, 32, 33, 34, 100, 101, 102, 103, 22, 104, 105, 106, 107, 29, 17, 16, 83, 84, 85, 86, 13, 61, 62, 63, 64, 87, 88, 89, 90, 15, 42, 65, 66, 67, 68, 11, 76, 77, 78, 57, 58, 59, 60, 12, 14, 108, 109, 110, 111, 112, 113, 114, 115, 116, 117, 118, 119, 20, 120, 121, 122, 123, 124, 125, 126, 127, 128, 129, 130, 131, 18, 132, 133, 134, 135, 53, 54, 55, 56, 69, 70, 71, 72, 73, 74, 75, 136, 137, 138, 139, 21, 140, 141, 142, 143, 144, 145, 146, 147, 148, 149, 150, 151, 251, 252, 253, 254, 255, 256, 257, 258, 259, 260, 261, 262, 263, 264, 265, 266] (by decide +kernel) (by decide +kernel)) (goodIn_sub (fun _ h => List.mem_cons_of_mem _ (List.mem_append_left _ (List.mem_append_right _ h))) (by decide +kernel))
set_option maxRecDepth 20000 in
theorem gL_cars_X0_load : GoodIn wsL_cars (wsV RL 54 RX0 yX0_load wsX0_load) := goodIn_app (goodIn_of _ (by decide +kernel)) ggL_cars_X0_load
set_option maxRecDepth 20000 in
theorem ggL_cars_X0_appetite : GoodIn wsL_cars wsX0_appetite := goodIn_ca (goodIn_ca (goodIn_ca (goodIn_r _ [179, 14, 43, 44, 45, 3, 46, 47, 48, 29, 35, 36, 37, 33, 34, 168, 169, 170, 171, 27, 28, 49, 50, 51, 52, 13, 251, 252, 253, 254, 255, 256, 257, 258, 259, 260, 261, 262, 263, 264, 265, 266] (by decide +kernel) (by decide +kernel)) (goodIn_sub (fun _ h => List.mem_cons_of_mem _ (List.mem_append_right _ h)) (by decide +kernel))) (goodIn_sub (fun _ h => List.mem_cons_of_mem _ (List.mem_append_left _ (List.mem_append_right _ h))) (by decide +kernel))) (goodIn_sub (fun _ h => List.mem_cons_of_mem _ (List.mem_append_left _ (List.mem_append_left _ (List.mem_append_right _ h)))) (by decide +kernel))
set_option maxRecDepth 20000 in
theorem gL_cars_X0_appetite : GoodIn wsL_cars (wsV RL 30 RX0 yX0_appetite wsX0_appetite) := goodIn_app (goodIn_of _ (by decide +kernel)) ggL_cars_X0_appetite
set_option maxRecDepth 20000 in
theorem ggL_cars_X0_held : GoodIn wsL_cars wsX0_held := goodIn_r _ [183, 29, 17, 16, 100, 101, 102, 3, 103, 22, 104, 105, 106, 107, 19, 83, 84, 85, 86, 13, 61, 62, 63, 64, 87, 88, 89, 90, 15, 42, 65, 66, 67, 68, 11, 76, 77, 78, 57, 58, 59, 60, 12, 14, 108, 109, 110, 111, 112, 113, 114, 115, 116, 117, 118, 119, 20, 120, 121, 122, 123, 124, 125, 126, 127, 128, 129, 130, 131, 18, 132, 133, 134, 135, 53, 54, 55, 56, 69, 70, 71, 72, 73, 74, 75, 136, 137, 138, 139, 21, 140, 141, 142, 143, 144, 145, 146, 147, 148, 149, 150, 151, 251, 252, 253, 254, 255, 256, 257, 258, 259, 260, 261, 262, 263, 264, 265, 266] (by decide +kernel) (by decide +kernel)
set_option maxRecDepth 20000 in
theorem gL_cars_X0_held : GoodIn wsL_cars (wsV RL 79 RX0 yX0_held wsX0_held) := goodIn_app (goodIn_of _ (by decide +kernel)) ggL_cars_X0_held
set_option maxRecDepth 20000 in
theorem ggL_cars_X0_stay : GoodIn wsL_cars wsX0_stay := goodIn_ca (goodIn_ca (goodIn_ca (goodIn_r _ [187, 15, 42, 73, 74, 63, 75, 43, 44, 45, 3, 46, 47, 48, 29, 35, 36, 37, 33, 34, 168, 169, 170, 171, 27, 28, 49, 50, 51, 52, 13, 69, 70, 71, 72, 251, 252, 253, 254, 255, 256, 257, 258, 259, 260, 261, 262, 263, 264, 265, 266] (by decide +kernel) (by decide +kernel)) (goodIn_sub (fun _ h => List.mem_cons_of_mem _ (List.mem_append_right _ h)) (by decide +kernel))) (goodIn_sub (fun _ h => List.mem_cons_of_mem _ (List.mem_append_left _ (List.mem_append_right _ h))) (by decide +kernel))) (goodIn_sub (fun _ h => List.mem_cons_of_mem _ (List.mem_append_left _ (List.mem_append_left _ (List.mem_append_right _ h)))) (by decide +kernel))
set_option maxRecDepth 20000 in
theorem gL_cars_X0_stay : GoodIn wsL_cars (wsV RL 33 RX0 yX0_stay wsX0_stay) := goodIn_app (goodIn_of _ (by decide +kernel)) ggL_cars_X0_stay
set_option maxRecDepth 20000 in
theorem ggL_cars_X0_current : GoodIn wsL_cars wsX0_current := goodIn_ca (goodIn_r _ [191, 17, 43, 44, 45, 3, 46, 47, 48, 29, 100, 101, 102, 103, 22, 104, 105, 106, 107, 16, 19, 83, 84, 85, 86, 13, 61, 62, 63, 64, 87, 88, 89, 90, 15, 42, 65, 66, 67, 68, 11, 76, 77, 78, 57, 58, 59, 60, 12, 14, 108, 109, 110, 111, 112, 113, 114, 115, 116, 117, 118, 119, 20, 120, 121, 122, 123, 124, 125, 126, 127, 128, 129, 130, 131, 18, 132, 133, 134, 135, 53, 54, 55, 56, 69, 70, 71, 72, 73, 74, 75, 136, 137, 138, 139, 21, 140, 141, 142, 143, 144, 145, 146, 147, 148, 149, 150, 151, 251, 252, 253, 254, 255, 256, 257, 258, 259, 260, 261, 262, 263, 264, 265, 266] (by decide +kernel) (by decide +kernel)) (goodIn_sub (fun _ h => List.mem_cons_of_mem _ (List.mem_append_right _ h)) (by decide +kernel))
set_option maxRecDepth 20000 in
theorem gL_cars_X0_current : GoodIn wsL_cars (wsV RL 51 RX0 yX0_current wsX0_current) := goodIn_app (goodIn_of _ (by decide +kernel)) ggL_cars_X0_current
set_option maxRecDepth 20000 in
theorem ggL_cars_X0_takeOut : GoodIn wsL_cars wsX0_takeOut := goodIn_ca (goodIn_ca (goodIn_r _ [195, 13, 196, 43, 44, 45, 3, 46, 47, 48, 29, 168, 169, 170, 171, 27, 28, 49, 50, 51, 52, 251, 252, 253, 254, 255, 256, 257, 258, 259, 260, 261, 262, 263, 264, 265, 266] (by decide +kernel) (by decide +kernel)) (goodIn_sub (fun _ h => List.mem_cons_of_mem _ (List.mem_append_right _ h)) (by decide +kernel))) (goodIn_sub (fun _ h => List.mem_cons_of_mem _ (List.mem_append_left _ (List.mem_append_left _ (List.mem_append_right _ h)))) (by decide +kernel))
set_option maxRecDepth 20000 in
theorem gL_cars_X0_takeOut : GoodIn wsL_cars (wsV RL 27 RX0 yX0_takeOut wsX0_takeOut) := goodIn_app (goodIn_of _ (by decide +kernel)) ggL_cars_X0_takeOut
set_option maxRecDepth 20000 in
theorem ggL_cars_X0_served : GoodIn wsL_cars wsX0_served := goodIn_r _ [200, 196, 251, 252, 253, 254, 255, 256, 257, 258, 259, 260, 261, 262, 263, 264, 265, 266] (by decide +kernel) (by decide +kernel)
set_option maxRecDepth 20000 in
theorem gL_cars_X0_served : GoodIn wsL_cars (wsV RL 108 RX0 yX0_served wsX0_served) := goodIn_app (goodIn_of _ (by decide +kernel)) ggL_cars_X0_served
set_option maxRecDepth 20000 in
theorem ggL_cars_X0_taken : GoodIn wsL_cars wsX0_taken := goodIn_r _ [204, 99, 251, 252, 253, 254, 255, 256, 257, 258, 259, 260, 261, 262, 263, 264, 265, 266] (by decide +kernel) (by decide +kernel)
set_option maxRecDepth 20000 in
theorem gL_cars_X0_taken : GoodIn wsL_cars (wsV RL 76 RX0 yX0_taken wsX0_taken) := goodIn_app (goodIn_of _ (by decide +kernel)) ggL_cars_X0_taken
set_option maxRecDepth 20000 in
theorem ggL_cars_L_refuses : GoodIn wsL_cars wsL_refuses := goodIn_ca (goodIn_ca (goodIn_ca (goodIn_r _ [208, 209, 210, 211, 212, 213, 214, 3, 215, 29, 216, 217, 218, 219, 42, 201, 202, 203, 204, 99, 180, 181, 182, 183, 17, 16, 100, 101, 102, 103, 22, 104, 105, 106, 107, 19, 83, 84, 85, 86, 13, 61, 62, 63, 64, 87, 88, 89, 90, 15, 65, 66, 67, 68, 11, 76, 77, 78, 57, 58, 59, 60, 12, 14, 108, 109, 110, 111, 112, 113, 114, 115, 116, 117, 118, 119, 20, 120, 121, 122, 123, 124, 125, 126, 127, 128, 129, 130, 131, 18, 132, 133, 134, 135, 53, 54, 55, 56, 69, 70, 71, 72, 73, 74, 75, 136, 137, 138, 139, 21, 140, 141, 142, 143, 144, 145, 146, 147, 148, 149, 150, 151, 220, 221, 207, 222, 223, 224, 225, 226, 23, 24, 25, 26, 27, 28, 30, 31, 32, 33, 34, 35, 36, 37, 227, 228, 229, 230, 231, 232, 233, 234, 235, 236, 237, 238, 38, 39, 40, 41, 43, 44, 45, 46, 47, 48, 49, 50, 51, 52, 192, 193, 194, 195, 196, 168, 169, 170, 171, 176, 177, 178, 179, 184, 185, 186, 187, 95, 96, 97, 98, 152, 153, 154, 155, 156, 157, 158, 159, 160, 161, 162, 163, 164, 165, 166, 167, 79, 80, 81, 82, 188, 189, 190, 191, 172, 173, 174, 175, 239, 240, 241, 242, 243, 244, 245, 246, 247, 248, 249, 250, 251, 252, 253, 254, 255, 256, 257, 258, 259, 260, 261, 262, 263, 264, 265, 266] (by decide +kernel) (by decide +kernel)) (goodIn_sub (fun _ h => List.mem_cons_of_mem _ (List.mem_append_left _ (List.mem_append_left _ (List.mem_append_right _ h)))) (by decide +kernel))) (goodIn_sub (fun _ h => List.mem_cons_of_mem _ (List.mem_append_left _ (List.mem_append_right _ h))) (by decide +kernel))) (goodIn_sub (fun _ h => List.mem_cons_of_mem _ (List.mem_append_right _ h)) (by decide +kernel))
set_option maxRecDepth 20000 in
theorem gL_cars_L_refuses : GoodIn wsL_cars (va_wsS RL 97 yL_refuses wsL_refuses) := goodIn_app (goodIn_of _ (by decide +kernel)) ggL_cars_L_refuses
theorem dL_cars_0 : decode cL_cars 0 = .ok (.new 8, 3) := by decide +kernel
theorem dL_cars_3 : decode cL_cars 3 = .ok (.dup, 1) := by decide +kernel
theorem dL_cars_4 : decode cL_cars 4 = .ok (.invokespecial 92, 3) := by decide +kernel
theorem dL_cars_7 : decode cL_cars 7 = .ok (.astore_n 0, 1) := by decide +kernel
theorem dL_cars_8 : decode cL_cars 8 = .ok (.aload_n 0, 1) := by decide +kernel
theorem dL_cars_9 : decode cL_cars 9 = .ok (.iconst 3, 1) := by decide +kernel
theorem dL_cars_10 : decode cL_cars 10 = .ok (.bipush 6, 2) := by decide +kernel
theorem dL_cars_12 : decode cL_cars 12 = .ok (.invokevirtual 7, 3) := by decide +kernel
theorem dL_cars_15 : decode cL_cars 15 = .ok (.ifCond .ne 239, 3) := by decide +kernel
theorem dL_cars_18 : decode cL_cars 18 = .ok (.aload_n 0, 1) := by decide +kernel
theorem dL_cars_19 : decode cL_cars 19 = .ok (.iconst 2, 1) := by decide +kernel
theorem dL_cars_20 : decode cL_cars 20 = .ok (.bipush 6, 2) := by decide +kernel
theorem dL_cars_22 : decode cL_cars 22 = .ok (.invokevirtual 7, 3) := by decide +kernel
theorem dL_cars_25 : decode cL_cars 25 = .ok (.iconst 1, 1) := by decide +kernel
theorem dL_cars_26 : decode cL_cars 26 = .ok (.if_icmp .ne 228, 3) := by decide +kernel
theorem dL_cars_29 : decode cL_cars 29 = .ok (.aload_n 0, 1) := by decide +kernel
theorem dL_cars_30 : decode cL_cars 30 = .ok (.iconst 0, 1) := by decide +kernel
theorem dL_cars_31 : decode cL_cars 31 = .ok (.bipush 20, 2) := by decide +kernel
theorem dL_cars_33 : decode cL_cars 33 = .ok (.iconst 5, 1) := by decide +kernel
theorem dL_cars_34 : decode cL_cars 34 = .ok (.iconst 2, 1) := by decide +kernel
theorem dL_cars_35 : decode cL_cars 35 = .ok (.invokevirtual 23, 3) := by decide +kernel
theorem dL_cars_38 : decode cL_cars 38 = .ok (.ifCond .ne 216, 3) := by decide +kernel
theorem dL_cars_41 : decode cL_cars 41 = .ok (.aload_n 0, 1) := by decide +kernel
theorem dL_cars_42 : decode cL_cars 42 = .ok (.iconst 0, 1) := by decide +kernel
theorem dL_cars_43 : decode cL_cars 43 = .ok (.invokevirtual 48, 3) := by decide +kernel
theorem dL_cars_46 : decode cL_cars 46 = .ok (.iconst 5, 1) := by decide +kernel
theorem dL_cars_47 : decode cL_cars 47 = .ok (.if_icmp .ne 207, 3) := by decide +kernel
theorem dL_cars_50 : decode cL_cars 50 = .ok (.aload_n 0, 1) := by decide +kernel
theorem dL_cars_51 : decode cL_cars 51 = .ok (.iconst 1, 1) := by decide +kernel
theorem dL_cars_52 : decode cL_cars 52 = .ok (.iconst 3, 1) := by decide +kernel
theorem dL_cars_53 : decode cL_cars 53 = .ok (.bipush 32, 2) := by decide +kernel
theorem dL_cars_55 : decode cL_cars 55 = .ok (.iconst 1, 1) := by decide +kernel
theorem dL_cars_56 : decode cL_cars 56 = .ok (.invokevirtual 23, 3) := by decide +kernel
theorem dL_cars_59 : decode cL_cars 59 = .ok (.ifCond .ne 195, 3) := by decide +kernel
theorem dL_cars_62 : decode cL_cars 62 = .ok (.aload_n 0, 1) := by decide +kernel
theorem dL_cars_63 : decode cL_cars 63 = .ok (.iconst 1, 1) := by decide +kernel
theorem dL_cars_64 : decode cL_cars 64 = .ok (.invokevirtual 48, 3) := by decide +kernel
theorem dL_cars_67 : decode cL_cars 67 = .ok (.iconst 3, 1) := by decide +kernel
theorem dL_cars_68 : decode cL_cars 68 = .ok (.if_icmp .ne 186, 3) := by decide +kernel
theorem dL_cars_71 : decode cL_cars 71 = .ok (.aload_n 0, 1) := by decide +kernel
theorem dL_cars_72 : decode cL_cars 72 = .ok (.invokevirtual 93, 3) := by decide +kernel
theorem dL_cars_75 : decode cL_cars 75 = .ok (.ifCond .eq 179, 3) := by decide +kernel
theorem dL_cars_78 : decode cL_cars 78 = .ok (.aload_n 0, 1) := by decide +kernel
theorem dL_cars_79 : decode cL_cars 79 = .ok (.iconst 1, 1) := by decide +kernel
theorem dL_cars_80 : decode cL_cars 80 = .ok (.invokevirtual 36, 3) := by decide +kernel
theorem dL_cars_83 : decode cL_cars 83 = .ok (.bipush 18, 2) := by decide +kernel
theorem dL_cars_85 : decode cL_cars 85 = .ok (.if_icmp .ne 169, 3) := by decide +kernel
theorem dL_cars_88 : decode cL_cars 88 = .ok (.aload_n 0, 1) := by decide +kernel
theorem dL_cars_89 : decode cL_cars 89 = .ok (.iconst 0, 1) := by decide +kernel
theorem dL_cars_90 : decode cL_cars 90 = .ok (.invokevirtual 39, 3) := by decide +kernel
theorem dL_cars_93 : decode cL_cars 93 = .ok (.iconst 5, 1) := by decide +kernel
theorem dL_cars_94 : decode cL_cars 94 = .ok (.if_icmp .ne 160, 3) := by decide +kernel
theorem dL_cars_97 : decode cL_cars 97 = .ok (.aload_n 0, 1) := by decide +kernel
theorem dL_cars_98 : decode cL_cars 98 = .ok (.iconst 1, 1) := by decide +kernel
theorem dL_cars_99 : decode cL_cars 99 = .ok (.invokevirtual 39, 3) := by decide +kernel
theorem dL_cars_102 : decode cL_cars 102 = .ok (.ifCond .ne 152, 3) := by decide +kernel
theorem dL_cars_105 : decode cL_cars 105 = .ok (.aload_n 0, 1) := by decide +kernel
theorem dL_cars_106 : decode cL_cars 106 = .ok (.iconst 1, 1) := by decide +kernel
theorem dL_cars_107 : decode cL_cars 107 = .ok (.invokevirtual 42, 3) := by decide +kernel
theorem dL_cars_110 : decode cL_cars 110 = .ok (.ifCond .ne 144, 3) := by decide +kernel
theorem dL_cars_113 : decode cL_cars 113 = .ok (.aload_n 0, 1) := by decide +kernel
theorem dL_cars_114 : decode cL_cars 114 = .ok (.iconst 1, 1) := by decide +kernel
theorem dL_cars_115 : decode cL_cars 115 = .ok (.invokevirtual 48, 3) := by decide +kernel
theorem dL_cars_118 : decode cL_cars 118 = .ok (.ifCond .ne 136, 3) := by decide +kernel
theorem dL_cars_121 : decode cL_cars 121 = .ok (.aload_n 0, 1) := by decide +kernel
theorem dL_cars_122 : decode cL_cars 122 = .ok (.iconst 1, 1) := by decide +kernel
theorem dL_cars_123 : decode cL_cars 123 = .ok (.invokevirtual 45, 3) := by decide +kernel
theorem dL_cars_126 : decode cL_cars 126 = .ok (.ifCond .ne 128, 3) := by decide +kernel
theorem dL_cars_129 : decode cL_cars 129 = .ok (.aload_n 0, 1) := by decide +kernel
theorem dL_cars_130 : decode cL_cars 130 = .ok (.invokevirtual 93, 3) := by decide +kernel
theorem dL_cars_133 : decode cL_cars 133 = .ok (.ifCond .eq 121, 3) := by decide +kernel
theorem dL_cars_136 : decode cL_cars 136 = .ok (.aload_n 0, 1) := by decide +kernel
theorem dL_cars_137 : decode cL_cars 137 = .ok (.iconst 0, 1) := by decide +kernel
theorem dL_cars_138 : decode cL_cars 138 = .ok (.invokevirtual 48, 3) := by decide +kernel
theorem dL_cars_141 : decode cL_cars 141 = .ok (.iconst 2, 1) := by decide +kernel
theorem dL_cars_142 : decode cL_cars 142 = .ok (.if_icmp .ne 112, 3) := by decide +kernel
theorem dL_cars_145 : decode cL_cars 145 = .ok (.aload_n 0, 1) := by decide +kernel
theorem dL_cars_146 : decode cL_cars 146 = .ok (.iconst 0, 1) := by decide +kernel
theorem dL_cars_147 : decode cL_cars 147 = .ok (.invokevirtual 54, 3) := by decide +kernel
theorem dL_cars_150 : decode cL_cars 150 = .ok (.iconst 2, 1) := by decide +kernel
theorem dL_cars_151 : decode cL_cars 151 = .ok (.if_icmp .ne 103, 3) := by decide +kernel
theorem dL_cars_154 : decode cL_cars 154 = .ok (.aload_n 0, 1) := by decide +kernel
theorem dL_cars_155 : decode cL_cars 155 = .ok (.iconst 0, 1) := by decide +kernel
theorem dL_cars_156 : decode cL_cars 156 = .ok (.iconst 1, 1) := by decide +kernel
theorem dL_cars_157 : decode cL_cars 157 = .ok (.invokevirtual 30, 3) := by decide +kernel
theorem dL_cars_160 : decode cL_cars 160 = .ok (.iconst 5, 1) := by decide +kernel
theorem dL_cars_161 : decode cL_cars 161 = .ok (.if_icmp .ne 93, 3) := by decide +kernel
theorem dL_cars_164 : decode cL_cars 164 = .ok (.aload_n 0, 1) := by decide +kernel
theorem dL_cars_165 : decode cL_cars 165 = .ok (.iconst 0, 1) := by decide +kernel
theorem dL_cars_166 : decode cL_cars 166 = .ok (.invokevirtual 48, 3) := by decide +kernel
theorem dL_cars_169 : decode cL_cars 169 = .ok (.iconst 1, 1) := by decide +kernel
theorem dL_cars_170 : decode cL_cars 170 = .ok (.if_icmp .ne 84, 3) := by decide +kernel
theorem dL_cars_173 : decode cL_cars 173 = .ok (.aload_n 0, 1) := by decide +kernel
theorem dL_cars_174 : decode cL_cars 174 = .ok (.iconst 0, 1) := by decide +kernel
theorem dL_cars_175 : decode cL_cars 175 = .ok (.invokevirtual 45, 3) := by decide +kernel
theorem dL_cars_178 : decode cL_cars 178 = .ok (.iconst (-1), 1) := by decide +kernel
theorem dL_cars_179 : decode cL_cars 179 = .ok (.if_icmp .ne 75, 3) := by decide +kernel
theorem dL_cars_182 : decode cL_cars 182 = .ok (.aload_n 0, 1) := by decide +kernel
theorem dL_cars_183 : decode cL_cars 183 = .ok (.invokevirtual 93, 3) := by decide +kernel
theorem dL_cars_186 : decode cL_cars 186 = .ok (.ifCond .ne 68, 3) := by decide +kernel
theorem dL_cars_189 : decode cL_cars 189 = .ok (.aload_n 0, 1) := by decide +kernel
theorem dL_cars_190 : decode cL_cars 190 = .ok (.iconst 1, 1) := by decide +kernel
theorem dL_cars_191 : decode cL_cars 191 = .ok (.invokevirtual 36, 3) := by decide +kernel
theorem dL_cars_194 : decode cL_cars 194 = .ok (.iconst 3, 1) := by decide +kernel
theorem dL_cars_195 : decode cL_cars 195 = .ok (.if_icmp .ne 59, 3) := by decide +kernel
theorem dL_cars_198 : decode cL_cars 198 = .ok (.aload_n 0, 1) := by decide +kernel
theorem dL_cars_199 : decode cL_cars 199 = .ok (.iconst 0, 1) := by decide +kernel
theorem dL_cars_200 : decode cL_cars 200 = .ok (.invokevirtual 39, 3) := by decide +kernel
theorem dL_cars_203 : decode cL_cars 203 = .ok (.iconst 2, 1) := by decide +kernel
theorem dL_cars_204 : decode cL_cars 204 = .ok (.if_icmp .ne 50, 3) := by decide +kernel
theorem dL_cars_207 : decode cL_cars 207 = .ok (.aload_n 0, 1) := by decide +kernel
theorem dL_cars_208 : decode cL_cars 208 = .ok (.iconst 0, 1) := by decide +kernel
theorem dL_cars_209 : decode cL_cars 209 = .ok (.invokevirtual 42, 3) := by decide +kernel
theorem dL_cars_212 : decode cL_cars 212 = .ok (.ifCond .ne 42, 3) := by decide +kernel
theorem dL_cars_215 : decode cL_cars 215 = .ok (.aload_n 0, 1) := by decide +kernel
theorem dL_cars_216 : decode cL_cars 216 = .ok (.iconst 0, 1) := by decide +kernel
theorem dL_cars_217 : decode cL_cars 217 = .ok (.invokevirtual 45, 3) := by decide +kernel
theorem dL_cars_220 : decode cL_cars 220 = .ok (.iconst (-1), 1) := by decide +kernel
theorem dL_cars_221 : decode cL_cars 221 = .ok (.if_icmp .ne 33, 3) := by decide +kernel
theorem dL_cars_224 : decode cL_cars 224 = .ok (.aload_n 0, 1) := by decide +kernel
theorem dL_cars_225 : decode cL_cars 225 = .ok (.iconst 0, 1) := by decide +kernel
theorem dL_cars_226 : decode cL_cars 226 = .ok (.invokevirtual 48, 3) := by decide +kernel
theorem dL_cars_229 : decode cL_cars 229 = .ok (.ifCond .ne 25, 3) := by decide +kernel
theorem dL_cars_232 : decode cL_cars 232 = .ok (.aload_n 0, 1) := by decide +kernel
theorem dL_cars_233 : decode cL_cars 233 = .ok (.iconst 5, 1) := by decide +kernel
theorem dL_cars_234 : decode cL_cars 234 = .ok (.invokevirtual 36, 3) := by decide +kernel
theorem dL_cars_237 : decode cL_cars 237 = .ok (.ifCond .ne 17, 3) := by decide +kernel
theorem dL_cars_240 : decode cL_cars 240 = .ok (.aload_n 0, 1) := by decide +kernel
theorem dL_cars_241 : decode cL_cars 241 = .ok (.invokevirtual 79, 3) := by decide +kernel
theorem dL_cars_244 : decode cL_cars 244 = .ok (.ifCond .ne 10, 3) := by decide +kernel
theorem dL_cars_247 : decode cL_cars 247 = .ok (.aload_n 0, 1) := by decide +kernel
theorem dL_cars_248 : decode cL_cars 248 = .ok (.invokevirtual 93, 3) := by decide +kernel
theorem dL_cars_251 : decode cL_cars 251 = .ok (.ifCond .eq 5, 3) := by decide +kernel
theorem dL_cars_254 : decode cL_cars 254 = .ok (.iconst 0, 1) := by decide +kernel
theorem dL_cars_255 : decode cL_cars 255 = .ok (.ireturn, 1) := by decide +kernel
theorem dL_cars_256 : decode cL_cars 256 = .ok (.aload_n 0, 1) := by decide +kernel
theorem dL_cars_257 : decode cL_cars 257 = .ok (.iconst 0, 1) := by decide +kernel
theorem dL_cars_258 : decode cL_cars 258 = .ok (.iconst 4, 1) := by decide +kernel
theorem dL_cars_259 : decode cL_cars 259 = .ok (.invokevirtual 33, 3) := by decide +kernel
theorem dL_cars_262 : decode cL_cars 262 = .ok (.iconst 4, 1) := by decide +kernel
theorem dL_cars_263 : decode cL_cars 263 = .ok (.if_icmp .ne 185, 3) := by decide +kernel
theorem dL_cars_266 : decode cL_cars 266 = .ok (.aload_n 0, 1) := by decide +kernel
theorem dL_cars_267 : decode cL_cars 267 = .ok (.iconst 0, 1) := by decide +kernel
theorem dL_cars_268 : decode cL_cars 268 = .ok (.invokevirtual 42, 3) := by decide +kernel
theorem dL_cars_271 : decode cL_cars 271 = .ok (.iconst 4, 1) := by decide +kernel
theorem dL_cars_272 : decode cL_cars 272 = .ok (.if_icmp .ne 176, 3) := by decide +kernel
theorem dL_cars_275 : decode cL_cars 275 = .ok (.aload_n 0, 1) := by decide +kernel
theorem dL_cars_276 : decode cL_cars 276 = .ok (.iconst 0, 1) := by decide +kernel
theorem dL_cars_277 : decode cL_cars 277 = .ok (.invokevirtual 45, 3) := by decide +kernel
theorem dL_cars_280 : decode cL_cars 280 = .ok (.iconst 3, 1) := by decide +kernel
theorem dL_cars_281 : decode cL_cars 281 = .ok (.if_icmp .ne 167, 3) := by decide +kernel
theorem dL_cars_284 : decode cL_cars 284 = .ok (.aload_n 0, 1) := by decide +kernel
theorem dL_cars_285 : decode cL_cars 285 = .ok (.invokevirtual 93, 3) := by decide +kernel
theorem dL_cars_288 : decode cL_cars 288 = .ok (.ifCond .eq 160, 3) := by decide +kernel
theorem dL_cars_291 : decode cL_cars 291 = .ok (.aload_n 0, 1) := by decide +kernel
theorem dL_cars_292 : decode cL_cars 292 = .ok (.iconst 0, 1) := by decide +kernel
theorem dL_cars_293 : decode cL_cars 293 = .ok (.sipush 500, 3) := by decide +kernel
theorem dL_cars_296 : decode cL_cars 296 = .ok (.invokevirtual 33, 3) := by decide +kernel
theorem dL_cars_299 : decode cL_cars 299 = .ok (.sipush 504, 3) := by decide +kernel
theorem dL_cars_302 : decode cL_cars 302 = .ok (.if_icmp .ne 146, 3) := by decide +kernel
theorem dL_cars_305 : decode cL_cars 305 = .ok (.aload_n 0, 1) := by decide +kernel
theorem dL_cars_306 : decode cL_cars 306 = .ok (.iconst 0, 1) := by decide +kernel
theorem dL_cars_307 : decode cL_cars 307 = .ok (.invokevirtual 51, 3) := by decide +kernel
theorem dL_cars_310 : decode cL_cars 310 = .ok (.iconst 1, 1) := by decide +kernel
theorem dL_cars_311 : decode cL_cars 311 = .ok (.if_icmp .ne 137, 3) := by decide +kernel
theorem dL_cars_314 : decode cL_cars 314 = .ok (.aload_n 0, 1) := by decide +kernel
theorem dL_cars_315 : decode cL_cars 315 = .ok (.iconst 1, 1) := by decide +kernel
theorem dL_cars_316 : decode cL_cars 316 = .ok (.invokevirtual 36, 3) := by decide +kernel
theorem dL_cars_319 : decode cL_cars 319 = .ok (.iconst 2, 1) := by decide +kernel
theorem dL_cars_320 : decode cL_cars 320 = .ok (.if_icmp .ne 128, 3) := by decide +kernel
theorem dL_cars_323 : decode cL_cars 323 = .ok (.aload_n 0, 1) := by decide +kernel
theorem dL_cars_324 : decode cL_cars 324 = .ok (.iconst 0, 1) := by decide +kernel
theorem dL_cars_325 : decode cL_cars 325 = .ok (.invokevirtual 39, 3) := by decide +kernel
theorem dL_cars_328 : decode cL_cars 328 = .ok (.ifCond .ne 120, 3) := by decide +kernel
theorem dL_cars_331 : decode cL_cars 331 = .ok (.aload_n 0, 1) := by decide +kernel
theorem dL_cars_332 : decode cL_cars 332 = .ok (.iconst 0, 1) := by decide +kernel
theorem dL_cars_333 : decode cL_cars 333 = .ok (.invokevirtual 51, 3) := by decide +kernel
theorem dL_cars_336 : decode cL_cars 336 = .ok (.ifCond .ne 112, 3) := by decide +kernel
theorem dL_cars_339 : decode cL_cars 339 = .ok (.aload_n 0, 1) := by decide +kernel
theorem dL_cars_340 : decode cL_cars 340 = .ok (.iconst 0, 1) := by decide +kernel
theorem dL_cars_341 : decode cL_cars 341 = .ok (.invokevirtual 45, 3) := by decide +kernel
theorem dL_cars_344 : decode cL_cars 344 = .ok (.sipush 503, 3) := by decide +kernel
theorem dL_cars_347 : decode cL_cars 347 = .ok (.if_icmp .ne 101, 3) := by decide +kernel
theorem dL_cars_350 : decode cL_cars 350 = .ok (.aload_n 0, 1) := by decide +kernel
theorem dL_cars_351 : decode cL_cars 351 = .ok (.iconst 0, 1) := by decide +kernel
theorem dL_cars_352 : decode cL_cars 352 = .ok (.invokevirtual 27, 3) := by decide +kernel
theorem dL_cars_355 : decode cL_cars 355 = .ok (.ifCond .ne 93, 3) := by decide +kernel
theorem dL_cars_358 : decode cL_cars 358 = .ok (.aload_n 0, 1) := by decide +kernel
theorem dL_cars_359 : decode cL_cars 359 = .ok (.invokevirtual 108, 3) := by decide +kernel
theorem dL_cars_362 : decode cL_cars 362 = .ok (.iconst 1, 1) := by decide +kernel
theorem dL_cars_363 : decode cL_cars 363 = .ok (.if_icmp .ne 85, 3) := by decide +kernel
theorem dL_cars_366 : decode cL_cars 366 = .ok (.aload_n 0, 1) := by decide +kernel
theorem dL_cars_367 : decode cL_cars 367 = .ok (.iconst 0, 1) := by decide +kernel
theorem dL_cars_368 : decode cL_cars 368 = .ok (.invokevirtual 39, 3) := by decide +kernel
theorem dL_cars_371 : decode cL_cars 371 = .ok (.iconst (-1), 1) := by decide +kernel
theorem dL_cars_372 : decode cL_cars 372 = .ok (.if_icmp .ne 76, 3) := by decide +kernel
theorem dL_cars_375 : decode cL_cars 375 = .ok (.aload_n 0, 1) := by decide +kernel
theorem dL_cars_376 : decode cL_cars 376 = .ok (.iconst 1, 1) := by decide +kernel
theorem dL_cars_377 : decode cL_cars 377 = .ok (.invokevirtual 27, 3) := by decide +kernel
theorem dL_cars_380 : decode cL_cars 380 = .ok (.ifCond .ne 68, 3) := by decide +kernel
theorem dL_cars_383 : decode cL_cars 383 = .ok (.aload_n 0, 1) := by decide +kernel
theorem dL_cars_384 : decode cL_cars 384 = .ok (.invokevirtual 108, 3) := by decide +kernel
theorem dL_cars_387 : decode cL_cars 387 = .ok (.iconst 2, 1) := by decide +kernel
theorem dL_cars_388 : decode cL_cars 388 = .ok (.if_icmp .ne 60, 3) := by decide +kernel
theorem dL_cars_391 : decode cL_cars 391 = .ok (.aload_n 0, 1) := by decide +kernel
theorem dL_cars_392 : decode cL_cars 392 = .ok (.iconst 1, 1) := by decide +kernel
theorem dL_cars_393 : decode cL_cars 393 = .ok (.sipush 5000, 3) := by decide +kernel
theorem dL_cars_396 : decode cL_cars 396 = .ok (.iconst 1, 1) := by decide +kernel
theorem dL_cars_397 : decode cL_cars 397 = .ok (.sipush 500, 3) := by decide +kernel
theorem dL_cars_400 : decode cL_cars 400 = .ok (.invokevirtual 23, 3) := by decide +kernel
theorem dL_cars_403 : decode cL_cars 403 = .ok (.sipush (-4500), 3) := by decide +kernel
theorem dL_cars_406 : decode cL_cars 406 = .ok (.if_icmp .ne 42, 3) := by decide +kernel
theorem dL_cars_409 : decode cL_cars 409 = .ok (.aload_n 0, 1) := by decide +kernel
theorem dL_cars_410 : decode cL_cars 410 = .ok (.iconst 1, 1) := by decide +kernel
theorem dL_cars_411 : decode cL_cars 411 = .ok (.invokevirtual 27, 3) := by decide +kernel
theorem dL_cars_414 : decode cL_cars 414 = .ok (.sipush 5000, 3) := by decide +kernel
theorem dL_cars_417 : decode cL_cars 417 = .ok (.if_icmp .ne 31, 3) := by decide +kernel
theorem dL_cars_420 : decode cL_cars 420 = .ok (.aload_n 0, 1) := by decide +kernel
theorem dL_cars_421 : decode cL_cars 421 = .ok (.invokevirtual 108, 3) := by decide +kernel
theorem dL_cars_424 : decode cL_cars 424 = .ok (.iconst 2, 1) := by decide +kernel
theorem dL_cars_425 : decode cL_cars 425 = .ok (.if_icmp .ne 23, 3) := by decide +kernel
theorem dL_cars_428 : decode cL_cars 428 = .ok (.aload_n 0, 1) := by decide +kernel
theorem dL_cars_429 : decode cL_cars 429 = .ok (.invokevirtual 76, 3) := by decide +kernel
theorem dL_cars_432 : decode cL_cars 432 = .ok (.bipush 23, 2) := by decide +kernel
theorem dL_cars_434 : decode cL_cars 434 = .ok (.if_icmp .ne 14, 3) := by decide +kernel
theorem dL_cars_437 : decode cL_cars 437 = .ok (.aload_n 0, 1) := by decide +kernel
theorem dL_cars_438 : decode cL_cars 438 = .ok (.invokestatic 97, 3) := by decide +kernel
theorem dL_cars_441 : decode cL_cars 441 = .ok (.ifCond .eq 7, 3) := by decide +kernel
theorem dL_cars_444 : decode cL_cars 444 = .ok (.iconst 1, 1) := by decide +kernel
theorem dL_cars_445 : decode cL_cars 445 = .ok (.goto 4, 3) := by decide +kernel
theorem dL_cars_448 : decode cL_cars 448 = .ok (.iconst 0, 1) := by decide +kernel
theorem dL_cars_449 : decode cL_cars 449 = .ok (.ireturn, 1) := by decide +kernel
set_option maxRecDepth 20000 in
theorem ggL_ties_X0_init : GoodIn wsL_ties wsX0_init := goodIn_r _ [7, 8, 9, 10, 11, 12, 13, 14, 15, 16, 17, 18, 19, 20, 21, 22, 23, 253, 254, 255, 256, 257, 258, 259, 260, 261, 262, 263, 264, 265, 266, 267, 268] (by decide +kernel) (by decide +kernel)
set_option maxRecDepth 20000 in
theorem gL_ties_X0_init : GoodIn wsL_ties (wsX0_init) := ggL_ties_X0_init
set_option maxRecDepth 20000 in
theorem ggL_ties_L_act : GoodIn wsL_ties wsL_act := goodIn_ca (goodIn_ca (goodIn_ca (goodIn_r _ [27, 28, 29, 30, 31, 32, 4, 33, 34, 35, 3, 36, 37, 38, 39, 12, 13, 14, 40, 41, 42, 43, 44, 45, 46, 47, 48, 49, 50, 51, 21, 52, 53, 54, 55, 22, 56, 57, 58, 59, 23, 60, 61, 62, 63, 15, 16, 64, 65, 66, 67, 68, 69, 70, 71, 72, 73, 74, 75, 76, 77, 78, 79, 80, 81, 82, 83, 84, 85, 86, 87, 88, 89, 90, 91, 92, 93, 94, 95, 96, 97, 98, 99, 100, 101, 102, 103, 104, 105, 106, 107, 108, 109, 110, 111, 112, 113, 114, 115, 116, 117, 118, 119, 120, 121, 122, 123, 124, 125, 126, 127, 128, 129, 130, 18, 17, 20, 131, 132, 133, 134, 135, 136, 137, 138, 139, 140, 141, 142, 143, 144, 145, 146, 147, 148, 149, 150, 151, 152, 153, 154, 155, 156, 157, 158, 159, 160, 161, 162, 19, 163, 164, 165, 166, 167, 168, 169, 170, 171, 172, 173, 174, 175, 176, 177, 178, 179, 180, 181, 182, 183, 184, 185, 186, 187, 188, 189, 190, 191, 192, 193, 194, 195, 196, 197, 198, 199, 200, 201, 202, 203, 204, 205, 206, 207, 208, 209, 210, 211, 212, 213, 214, 215, 216, 217, 218, 219, 220, 221, 222, 253, 254, 255, 256, 257, 258, 259, 260, 261, 262, 263, 264, 265, 266, 267, 268] (by decide +kernel) (by decide +kernel)) (goodIn_sub (fun _ h => List.mem_cons_of_mem _ (List.mem_append_left _ (List.mem_append_left _ (List.mem_append_right _ h)))) (by decide +kernel))) (goodIn_sub (fun _ h => List.mem_cons_of_mem _ (List.mem_append_left _ (List.mem_append_right _ h))) (by decide +kernel))) (goodIn_sub (fun _ h => List.mem_cons_of_mem _ (List.mem_append_right _ h)) (by decide +kernel))
set_option maxRecDepth 20000 in
theorem gL_ties_L_act : GoodIn wsL_ties (va_wsS RL 83 yL_act wsL_act) := goodIn_app (goodIn_of _ (by decide +kernel)) ggL_ties_L_act
set_option maxRecDepth 20000 in
theorem ggL_ties_X0_plugIn : GoodIn wsL_ties wsX0_plugIn := goodIn_ca (goodIn_ca (goodIn_ca (goodIn_r _ [63, 37, 38, 14, 15, 16, 64, 65, 66, 67, 3, 68, 69, 70, 39, 45, 46, 47, 43, 44, 71, 72, 73, 74, 75, 76, 77, 78, 79, 80, 81, 82, 13, 83, 84, 85, 86, 87, 88, 89, 90, 12, 91, 92, 93, 94, 95, 96, 97, 98, 99, 100, 253, 254, 255, 256, 257, 258, 259, 260, 261, 262, 263, 264, 265, 266, 267, 268] (by decide +kernel) (by decide +kernel)) (goodIn_sub (fun _ h => List.mem_cons_of_mem _ (List.mem_append_left _ (List.mem_append_left _ (List.mem_append_right _ h)))) (by decide +kernel))) (goodIn_sub (fun _ h => List.mem_cons_of_mem _ (List.mem_append_right _ h)) (by decide +kernel))) (goodIn_sub (fun _ h => List.mem_cons_of_mem _ (List.mem_append_left _ (List.mem_append_right _ h))) (by decide +kernel))
set_option maxRecDepth 20000 in
theorem gL_ties_X0_plugIn : GoodIn wsL_ties (wsV RL 23 RX0 yX0_plugIn wsX0_plugIn) := goodIn_app (goodIn_of _ (by decide +kernel)) ggL_ties_X0_plugIn
set_option maxRecDepth 20000 in
theorem ggL_ties_X0_fuse : GoodIn wsL_ties wsX0_fuse := goodIn_ca (goodIn_r _ [51, 21, 40, 41, 3, 42, 43, 44, 45, 46, 47, 253, 254, 255, 256, 257, 258, 259, 260, 261, 262, 263, 264, 265, 266, 267, 268] (by decide +kernel) (by decide +kernel)) (goodIn_sub (fun _ h => List.mem_cons_of_mem _ (List.mem_append_left _ (List.mem_append_right _ h))) (by decide +kernel))
set_option maxRecDepth 20000 in
theorem gL_ties_X0_fuse : GoodIn wsL_ties (wsV RL 13 RX0 yX0_fuse wsX0_fuse) := goodIn_app (goodIn_of _ (by decide +kernel)) ggL_ties_X0_fuse
set_option maxRecDepth 20000 in
theorem ggL_ties_L_gives : GoodIn wsL_ties wsL_gives := goodIn_ca (goodIn_r _ [225, 203, 204, 205, 3, 206, 18, 65, 66, 67, 68, 69, 70, 39, 123, 124, 125, 126, 23, 127, 128, 129, 130, 17, 20, 131, 132, 133, 134, 14, 83, 84, 85, 86, 135, 136, 137, 138, 16, 64, 87, 88, 89, 90, 12, 98, 99, 100, 79, 80, 81, 82, 13, 15, 139, 140, 141, 142, 143, 144, 145, 146, 147, 148, 149, 150, 21, 151, 152, 153, 154, 155, 156, 157, 158, 159, 160, 161, 162, 19, 163, 164, 165, 166, 75, 76, 77, 78, 91, 92, 93, 94, 95, 96, 97, 167, 168, 169, 170, 22, 171, 172, 173, 174, 175, 176, 177, 178, 179, 180, 181, 182, 253, 254, 255, 256, 257, 258, 259, 260, 261, 262, 263, 264, 265, 266, 267, 268] (by decide +kernel) (by decide +kernel)) (goodIn_sub (fun _ h => List.mem_cons_of_mem _ (List.mem_append_right _ h)) (by decide +kernel))
set_option maxRecDepth 20000 in
theorem gL_ties_L_gives : GoodIn wsL_ties (va_wsS RL 101 yL_gives wsL_gives) := goodIn_app (goodIn_of _ (by decide +kernel)) ggL_ties_L_gives
set_option maxRecDepth 20000 in
theorem ggL_ties_X0_current : GoodIn wsL_ties wsX0_current := goodIn_ca (goodIn_r _ [206, 18, 65, 66, 67, 3, 68, 69, 70, 39, 123, 124, 125, 126, 23, 127, 128, 129, 130, 17, 20, 131, 132, 133, 134, 14, 83, 84, 85, 86, 135, 136, 137, 138, 16, 64, 87, 88, 89, 90, 12, 98, 99, 100, 79, 80, 81, 82, 13, 15, 139, 140, 141, 142, 143, 144, 145, 146, 147, 148, 149, 150, 21, 151, 152, 153, 154, 155, 156, 157, 158, 159, 160, 161, 162, 19, 163, 164, 165, 166, 75, 76, 77, 78, 91, 92, 93, 94, 95, 96, 97, 167, 168, 169, 170, 22, 171, 172, 173, 174, 175, 176, 177, 178, 179, 180, 181, 182, 253, 254, 255, 256, 257, 258, 259, 260, 261, 262, 263, 264, 265, 266, 267, 268] (by decide +kernel) (by decide +kernel)) (goodIn_sub (fun _ h => List.mem_cons_of_mem _ (List.mem_append_right _ h)) (by decide +kernel))
set_option maxRecDepth 20000 in
theorem gL_ties_X0_current : GoodIn wsL_ties (wsV RL 51 RX0 yX0_current wsX0_current) := goodIn_app (goodIn_of _ (by decide +kernel)) ggL_ties_X0_current
set_option maxRecDepth 20000 in
theorem ggL_ties_X0_held : GoodIn wsL_ties wsX0_held := goodIn_r _ [229, 39, 18, 17, 123, 124, 125, 3, 126, 23, 127, 128, 129, 130, 20, 131, 132, 133, 134, 14, 83, 84, 85, 86, 135, 136, 137, 138, 16, 64, 87, 88, 89, 90, 12, 98, 99, 100, 79, 80, 81, 82, 13, 15, 139, 140, 141, 142, 143, 144, 145, 146, 147, 148, 149, 150, 21, 151, 152, 153, 154, 155, 156, 157, 158, 159, 160, 161, 162, 19, 163, 164, 165, 166, 75, 76, 77, 78, 91, 92, 93, 94, 95, 96, 97, 167, 168, 169, 170, 22, 171, 172, 173, 174, 175, 176, 177, 178, 179, 180, 181, 182, 253, 254, 255, 256, 257, 258, 259, 260, 261, 262, 263, 264, 265, 266, 267, 268] (by decide +kernel) (by decide +kernel)
set_option maxRecDepth 20000 in
theorem gL_ties_X0_held : GoodIn wsL_ties (wsV RL 79 RX0 yX0_held wsX0_held) := goodIn_app (goodIn_of _ (by decide +kernel)) ggL_ties_X0_held
set_option maxRecDepth 20000 in
theorem ggL_ties_X0_reach : GoodIn wsL_ties wsX0_reach := goodIn_ca (goodIn_r _ [202, 65, 66, 67, 3, 68, 69, 70, 39, 131, 132, 133, 134, 14, 83, 84, 85, 86, 135, 136, 137, 138, 16, 64, 87, 88, 89, 90, 12, 98, 99, 100, 79, 80, 81, 82, 13, 15, 253, 254, 255, 256, 257, 258, 259, 260, 261, 262, 263, 264, 265, 266, 267, 268] (by decide +kernel) (by decide +kernel)) (goodIn_sub (fun _ h => List.mem_cons_of_mem _ (List.mem_append_right _ h)) (by decide +kernel))
set_option maxRecDepth 20000 in
theorem gL_ties_X0_reach : GoodIn wsL_ties (wsV RL 48 RX0 yX0_reach wsX0_reach) := goodIn_app (goodIn_of _ (by decide +kernel)) ggL_ties_X0_reach
set_option maxRecDepth 20000 in
theorem ggL_ties_X0_fairLevel : GoodIn wsL_ties wsX0_fairLevel := goodIn_ca (goodIn_r _ [214, 21, 40, 41, 3, 42, 43, 44, 123, 124, 125, 126, 23, 127, 128, 129, 130, 39, 18, 17, 20, 131, 132, 133, 134, 14, 83, 84, 85, 86, 135, 136, 137, 138, 16, 64, 87, 88, 89, 90, 12, 98, 99, 100, 79, 80, 81, 82, 13, 15, 139, 140, 141, 142, 143, 144, 145, 146, 147, 148, 149, 150, 151, 152, 153, 154, 155, 156, 157, 158, 159, 160, 161, 162, 19, 163, 164, 165, 166, 75, 76, 77, 78, 91, 92, 93, 94, 95, 96, 97, 167, 168, 169, 170, 22, 171, 172, 173, 174, 175, 176, 177, 178, 179, 180, 181, 182, 215, 216, 217, 218, 219, 220, 221, 222, 253, 254, 255, 256, 257, 258, 259, 260, 261, 262, 263, 264, 265, 266, 267, 268] (by decide +kernel) (by decide +kernel)) (goodIn_sub (fun _ h => List.mem_cons_of_mem _ (List.mem_append_left _ (List.mem_append_right _ h))) (by decide +kernel))
set_option maxRecDepth 20000 in
theorem gL_ties_X0_fairLevel : GoodIn wsL_ties (wsV RL 57 RX0 yX0_fairLevel wsX0_fairLevel) := goodIn_app (goodIn_of _ (by decide +kernel)) ggL_ties_X0_fairLevel
set_option maxRecDepth 20000 in
theorem ggL_ties_X0_rule : GoodIn wsL_ties wsX0_rule := goodIn_ca (goodIn_r _ [59, 23, 45, 46, 3, 47, 43, 44, 253, 254, 255, 256, 257, 258, 259, 260, 261, 262, 263, 264, 265, 266, 267, 268] (by decide +kernel) (by decide +kernel)) (goodIn_sub (fun _ h => List.mem_cons_of_mem _ (List.mem_append_left _ (List.mem_append_right _ h))) (by decide +kernel))
set_option maxRecDepth 20000 in
theorem gL_ties_X0_rule : GoodIn wsL_ties (wsV RL 20 RX0 yX0_rule wsX0_rule) := goodIn_app (goodIn_of _ (by decide +kernel)) ggL_ties_X0_rule
set_option maxRecDepth 20000 in
theorem ggL_ties_L_loads : GoodIn wsL_ties wsL_loads := goodIn_ca (goodIn_r _ [232, 207, 208, 209, 3, 210, 20, 40, 41, 42, 43, 44, 123, 124, 125, 126, 23, 127, 128, 129, 130, 39, 18, 17, 131, 132, 133, 134, 14, 83, 84, 85, 86, 135, 136, 137, 138, 16, 64, 87, 88, 89, 90, 12, 98, 99, 100, 79, 80, 81, 82, 13, 15, 139, 140, 141, 142, 143, 144, 145, 146, 147, 148, 149, 150, 21, 151, 152, 153, 154, 155, 156, 157, 158, 159, 160, 161, 162, 19, 163, 164, 165, 166, 75, 76, 77, 78, 91, 92, 93, 94, 95, 96, 97, 167, 168, 169, 170, 22, 171, 172, 173, 174, 175, 176, 177, 178, 179, 180, 181, 182, 233, 234, 235, 236, 253, 254, 255, 256, 257, 258, 259, 260, 261, 262, 263, 264, 265, 266, 267, 268] (by decide +kernel) (by decide +kernel)) (goodIn_sub (fun _ h => List.mem_cons_of_mem _ (List.mem_append_left _ (List.mem_append_right _ h))) (by decide +kernel))
set_option maxRecDepth 20000 in
theorem gL_ties_L_loads : GoodIn wsL_ties (va_wsS RL 105 yL_loads wsL_loads) := goodIn_app (goodIn_of _ (by decide +kernel)) ggL_ties_L_loads
set_option maxRecDepth 20000 in
theorem ggL_ties_X0_balance : GoodIn wsL_ties wsX0_balance := goodIn_ca (goodIn_r _ [55, 22, 45, 46, 3, 47, 43, 44, 253, 254, 255, 256, 257, 258, 259, 260, 261, 262, 263, 264, 265, 266, 267, 268] (by decide +kernel) (by decide +kernel)) (goodIn_sub (fun _ h => List.mem_cons_of_mem _ (List.mem_append_left _ (List.mem_append_right _ h))) (by decide +kernel))
set_option maxRecDepth 20000 in
theorem gL_ties_X0_balance : GoodIn wsL_ties (wsV RL 16 RX0 yX0_balance wsX0_balance) := goodIn_app (goodIn_of _ (by decide +kernel)) ggL_ties_X0_balance
set_option maxRecDepth 20000 in
theorem ggL_ties_L_refuses : GoodIn wsL_ties wsL_refuses := goodIn_ca (goodIn_ca (goodIn_ca (goodIn_r _ [239, 240, 32, 31, 241, 242, 243, 3, 244, 39, 245, 246, 247, 248, 64, 249, 250, 251, 252, 122, 226, 227, 228, 229, 18, 17, 123, 124, 125, 126, 23, 127, 128, 129, 130, 20, 131, 132, 133, 134, 14, 83, 84, 85, 86, 135, 136, 137, 138, 16, 87, 88, 89, 90, 12, 98, 99, 100, 79, 80, 81, 82, 13, 15, 139, 140, 141, 142, 143, 144, 145, 146, 147, 148, 149, 150, 21, 151, 152, 153, 154, 155, 156, 157, 158, 159, 160, 161, 162, 19, 163, 164, 165, 166, 75, 76, 77, 78, 91, 92, 93, 94, 95, 96, 97, 167, 168, 169, 170, 22, 171, 172, 173, 174, 175, 176, 177, 178, 179, 180, 181, 182, 24, 25, 26, 27, 28, 29, 30, 4, 33, 34, 35, 36, 37, 38, 40, 41, 42, 43, 44, 45, 46, 47, 48, 49, 50, 51, 52, 53, 54, 55, 56, 57, 58, 59, 60, 61, 62, 63, 65, 66, 67, 68, 69, 70, 71, 72, 73, 74, 101, 102, 103, 104, 105, 106, 107, 108, 109, 110, 111, 112, 113, 114, 115, 116, 117, 118, 119, 120, 121, 183, 184, 185, 186, 187, 188, 189, 190, 191, 192, 193, 194, 195, 196, 197, 198, 199, 200, 201, 202, 203, 204, 205, 206, 207, 208, 209, 210, 211, 212, 213, 214, 215, 216, 217, 218, 219, 220, 221, 222, 253, 254, 255, 256, 257, 258, 259, 260, 261, 262, 263, 264, 265, 266, 267, 268] (by decide +kernel) (by decide +kernel)) (goodIn_sub (fun _ h => List.mem_cons_of_mem _ (List.mem_append_left _ (List.mem_append_left _ (List.mem_append_right _ h)))) (by decide +kernel))) (goodIn_sub (fun _ h => List.mem_cons_of_mem _ (List.mem_append_left _ (List.mem_append_right _ h))) (by decide +kernel))) (goodIn_sub (fun _ h => List.mem_cons_of_mem _ (List.mem_append_right _ h)) (by decide +kernel))
set_option maxRecDepth 20000 in
theorem gL_ties_L_refuses : GoodIn wsL_ties (va_wsS RL 97 yL_refuses wsL_refuses) := goodIn_app (goodIn_of _ (by decide +kernel)) ggL_ties_L_refuses
theorem dL_ties_0 : decode cL_ties 0 = .ok (.new 8, 3) := by decide +kernel
theorem dL_ties_3 : decode cL_ties 3 = .ok (.dup, 1) := by decide +kernel
theorem dL_ties_4 : decode cL_ties 4 = .ok (.invokespecial 92, 3) := by decide +kernel
theorem dL_ties_7 : decode cL_ties 7 = .ok (.astore_n 0, 1) := by decide +kernel
theorem dL_ties_8 : decode cL_ties 8 = .ok (.iconst 0, 1) := by decide +kernel
theorem dL_ties_9 : decode cL_ties 9 = .ok (.istore_n 1, 1) := by decide +kernel
theorem dL_ties_10 : decode cL_ties 10 = .ok (.iload_n 1, 1) := by decide +kernel
theorem dL_ties_11 : decode cL_ties 11 = .ok (.bipush 9, 2) := by decide +kernel
theorem dL_ties_13 : decode cL_ties 13 = .ok (.if_icmp .ge 40, 3) := by decide +kernel
theorem dL_ties_16 : decode cL_ties 16 = .ok (.aload_n 0, 1) := by decide +kernel
theorem dL_ties_17 : decode cL_ties 17 = .ok (.iconst 0, 1) := by decide +kernel
theorem dL_ties_18 : decode cL_ties 18 = .ok (.iload_n 1, 1) := by decide +kernel
theorem dL_ties_19 : decode cL_ties 19 = .ok (.iconst 3, 1) := by decide +kernel
theorem dL_ties_20 : decode cL_ties 20 = .ok (.irem, 1) := by decide +kernel
theorem dL_ties_21 : decode cL_ties 21 = .ok (.bipush 6, 2) := by decide +kernel
theorem dL_ties_23 : decode cL_ties 23 = .ok (.iload_n 1, 1) := by decide +kernel
theorem dL_ties_24 : decode cL_ties 24 = .ok (.iadd, 1) := by decide +kernel
theorem dL_ties_25 : decode cL_ties 25 = .ok (.iconst 0, 1) := by decide +kernel
theorem dL_ties_26 : decode cL_ties 26 = .ok (.iconst 0, 1) := by decide +kernel
theorem dL_ties_27 : decode cL_ties 27 = .ok (.invokestatic 83, 3) := by decide +kernel
theorem dL_ties_30 : decode cL_ties 30 = .ok (.iload_n 1, 1) := by decide +kernel
theorem dL_ties_31 : decode cL_ties 31 = .ok (.bipush 8, 2) := by decide +kernel
theorem dL_ties_33 : decode cL_ties 33 = .ok (.if_icmp .ge 7, 3) := by decide +kernel
theorem dL_ties_36 : decode cL_ties 36 = .ok (.iload_n 1, 1) := by decide +kernel
theorem dL_ties_37 : decode cL_ties 37 = .ok (.goto 5, 3) := by decide +kernel
theorem dL_ties_40 : decode cL_ties 40 = .ok (.ldc 68, 2) := by decide +kernel
theorem dL_ties_42 : decode cL_ties 42 = .ok (.if_icmp .eq 5, 3) := by decide +kernel
theorem dL_ties_45 : decode cL_ties 45 = .ok (.iconst 0, 1) := by decide +kernel
theorem dL_ties_46 : decode cL_ties 46 = .ok (.ireturn, 1) := by decide +kernel
theorem dL_ties_47 : decode cL_ties 47 = .ok (.iinc 1 1, 3) := by decide +kernel
theorem dL_ties_50 : decode cL_ties 50 = .ok (.goto (-40), 3) := by decide +kernel
theorem dL_ties_53 : decode cL_ties 53 = .ok (.iconst 0, 1) := by decide +kernel
theorem dL_ties_54 : decode cL_ties 54 = .ok (.istore_n 1, 1) := by decide +kernel
theorem dL_ties_55 : decode cL_ties 55 = .ok (.iload_n 1, 1) := by decide +kernel
theorem dL_ties_56 : decode cL_ties 56 = .ok (.bipush 8, 2) := by decide +kernel
theorem dL_ties_58 : decode cL_ties 58 = .ok (.if_icmp .ge 58, 3) := by decide +kernel
theorem dL_ties_61 : decode cL_ties 61 = .ok (.aload_n 0, 1) := by decide +kernel
theorem dL_ties_62 : decode cL_ties 62 = .ok (.iload_n 1, 1) := by decide +kernel
theorem dL_ties_63 : decode cL_ties 63 = .ok (.bipush 10, 2) := by decide +kernel
theorem dL_ties_65 : decode cL_ties 65 = .ok (.bipush 32, 2) := by decide +kernel
theorem dL_ties_67 : decode cL_ties 67 = .ok (.iconst 4, 1) := by decide +kernel
theorem dL_ties_68 : decode cL_ties 68 = .ok (.invokevirtual 23, 3) := by decide +kernel
theorem dL_ties_71 : decode cL_ties 71 = .ok (.iload_n 1, 1) := by decide +kernel
theorem dL_ties_72 : decode cL_ties 72 = .ok (.iconst 4, 1) := by decide +kernel
theorem dL_ties_73 : decode cL_ties 73 = .ok (.if_icmp .ge 7, 3) := by decide +kernel
theorem dL_ties_76 : decode cL_ties 76 = .ok (.iconst 2, 1) := by decide +kernel
theorem dL_ties_77 : decode cL_ties 77 = .ok (.goto 4, 3) := by decide +kernel
theorem dL_ties_80 : decode cL_ties 80 = .ok (.iconst 3, 1) := by decide +kernel
theorem dL_ties_81 : decode cL_ties 81 = .ok (.if_icmp .ne 27, 3) := by decide +kernel
theorem dL_ties_84 : decode cL_ties 84 = .ok (.aload_n 0, 1) := by decide +kernel
theorem dL_ties_85 : decode cL_ties 85 = .ok (.iload_n 1, 1) := by decide +kernel
theorem dL_ties_86 : decode cL_ties 86 = .ok (.iconst 3, 1) := by decide +kernel
theorem dL_ties_87 : decode cL_ties 87 = .ok (.irem, 1) := by decide +kernel
theorem dL_ties_88 : decode cL_ties 88 = .ok (.bipush 12, 2) := by decide +kernel
theorem dL_ties_90 : decode cL_ties 90 = .ok (.invokevirtual 13, 3) := by decide +kernel
theorem dL_ties_93 : decode cL_ties 93 = .ok (.iload_n 1, 1) := by decide +kernel
theorem dL_ties_94 : decode cL_ties 94 = .ok (.iconst 3, 1) := by decide +kernel
theorem dL_ties_95 : decode cL_ties 95 = .ok (.if_icmp .ge 8, 3) := by decide +kernel
theorem dL_ties_98 : decode cL_ties 98 = .ok (.bipush 32, 2) := by decide +kernel
theorem dL_ties_100 : decode cL_ties 100 = .ok (.goto 5, 3) := by decide +kernel
theorem dL_ties_103 : decode cL_ties 103 = .ok (.bipush 12, 2) := by decide +kernel
theorem dL_ties_105 : decode cL_ties 105 = .ok (.if_icmp .eq 5, 3) := by decide +kernel
theorem dL_ties_108 : decode cL_ties 108 = .ok (.iconst 0, 1) := by decide +kernel
theorem dL_ties_109 : decode cL_ties 109 = .ok (.ireturn, 1) := by decide +kernel
theorem dL_ties_110 : decode cL_ties 110 = .ok (.iinc 1 1, 3) := by decide +kernel
theorem dL_ties_113 : decode cL_ties 113 = .ok (.goto (-58), 3) := by decide +kernel
theorem dL_ties_116 : decode cL_ties 116 = .ok (.aload_n 0, 1) := by decide +kernel
theorem dL_ties_117 : decode cL_ties 117 = .ok (.bipush 6, 2) := by decide +kernel
theorem dL_ties_119 : decode cL_ties 119 = .ok (.bipush 7, 2) := by decide +kernel
theorem dL_ties_121 : decode cL_ties 121 = .ok (.bipush 8, 2) := by decide +kernel
theorem dL_ties_123 : decode cL_ties 123 = .ok (.bipush 6, 2) := by decide +kernel
theorem dL_ties_125 : decode cL_ties 125 = .ok (.invokestatic 101, 3) := by decide +kernel
theorem dL_ties_128 : decode cL_ties 128 = .ok (.ifCond .eq 225, 3) := by decide +kernel
theorem dL_ties_131 : decode cL_ties 131 = .ok (.aload_n 0, 1) := by decide +kernel
theorem dL_ties_132 : decode cL_ties 132 = .ok (.iconst 4, 1) := by decide +kernel
theorem dL_ties_133 : decode cL_ties 133 = .ok (.invokevirtual 51, 3) := by decide +kernel
theorem dL_ties_136 : decode cL_ties 136 = .ok (.iconst 5, 1) := by decide +kernel
theorem dL_ties_137 : decode cL_ties 137 = .ok (.if_icmp .ne 216, 3) := by decide +kernel
theorem dL_ties_140 : decode cL_ties 140 = .ok (.aload_n 0, 1) := by decide +kernel
theorem dL_ties_141 : decode cL_ties 141 = .ok (.iconst 5, 1) := by decide +kernel
theorem dL_ties_142 : decode cL_ties 142 = .ok (.invokevirtual 51, 3) := by decide +kernel
theorem dL_ties_145 : decode cL_ties 145 = .ok (.iconst 4, 1) := by decide +kernel
theorem dL_ties_146 : decode cL_ties 146 = .ok (.if_icmp .ne 207, 3) := by decide +kernel
theorem dL_ties_149 : decode cL_ties 149 = .ok (.aload_n 0, 1) := by decide +kernel
theorem dL_ties_150 : decode cL_ties 150 = .ok (.bipush 6, 2) := by decide +kernel
theorem dL_ties_152 : decode cL_ties 152 = .ok (.invokevirtual 51, 3) := by decide +kernel
theorem dL_ties_155 : decode cL_ties 155 = .ok (.ifCond .ne 198, 3) := by decide +kernel
theorem dL_ties_158 : decode cL_ties 158 = .ok (.aload_n 0, 1) := by decide +kernel
theorem dL_ties_159 : decode cL_ties 159 = .ok (.bipush 7, 2) := by decide +kernel
theorem dL_ties_161 : decode cL_ties 161 = .ok (.invokevirtual 51, 3) := by decide +kernel
theorem dL_ties_164 : decode cL_ties 164 = .ok (.ifCond .ne 189, 3) := by decide +kernel
theorem dL_ties_167 : decode cL_ties 167 = .ok (.aload_n 0, 1) := by decide +kernel
theorem dL_ties_168 : decode cL_ties 168 = .ok (.invokevirtual 79, 3) := by decide +kernel
theorem dL_ties_171 : decode cL_ties 171 = .ok (.sipush 248, 3) := by decide +kernel
theorem dL_ties_174 : decode cL_ties 174 = .ok (.if_icmp .ne 179, 3) := by decide +kernel
theorem dL_ties_177 : decode cL_ties 177 = .ok (.aload_n 0, 1) := by decide +kernel
theorem dL_ties_178 : decode cL_ties 178 = .ok (.iconst 4, 1) := by decide +kernel
theorem dL_ties_179 : decode cL_ties 179 = .ok (.invokevirtual 48, 3) := by decide +kernel
theorem dL_ties_182 : decode cL_ties 182 = .ok (.bipush 10, 2) := by decide +kernel
theorem dL_ties_184 : decode cL_ties 184 = .ok (.if_icmp .ne 169, 3) := by decide +kernel
theorem dL_ties_187 : decode cL_ties 187 = .ok (.aload_n 0, 1) := by decide +kernel
theorem dL_ties_188 : decode cL_ties 188 = .ok (.iconst 0, 1) := by decide +kernel
theorem dL_ties_189 : decode cL_ties 189 = .ok (.invokevirtual 57, 3) := by decide +kernel
theorem dL_ties_192 : decode cL_ties 192 = .ok (.sipush 4000, 3) := by decide +kernel
theorem dL_ties_195 : decode cL_ties 195 = .ok (.if_icmp .ne 158, 3) := by decide +kernel
theorem dL_ties_198 : decode cL_ties 198 = .ok (.aload_n 0, 1) := by decide +kernel
theorem dL_ties_199 : decode cL_ties 199 = .ok (.iconst 1, 1) := by decide +kernel
theorem dL_ties_200 : decode cL_ties 200 = .ok (.invokevirtual 57, 3) := by decide +kernel
theorem dL_ties_203 : decode cL_ties 203 = .ok (.sipush 4000, 3) := by decide +kernel
theorem dL_ties_206 : decode cL_ties 206 = .ok (.if_icmp .ne 147, 3) := by decide +kernel
theorem dL_ties_209 : decode cL_ties 209 = .ok (.aload_n 0, 1) := by decide +kernel
theorem dL_ties_210 : decode cL_ties 210 = .ok (.iconst 2, 1) := by decide +kernel
theorem dL_ties_211 : decode cL_ties 211 = .ok (.invokevirtual 57, 3) := by decide +kernel
theorem dL_ties_214 : decode cL_ties 214 = .ok (.sipush 6000, 3) := by decide +kernel
theorem dL_ties_217 : decode cL_ties 217 = .ok (.if_icmp .ne 136, 3) := by decide +kernel
theorem dL_ties_220 : decode cL_ties 220 = .ok (.aload_n 0, 1) := by decide +kernel
theorem dL_ties_221 : decode cL_ties 221 = .ok (.iconst 1, 1) := by decide +kernel
theorem dL_ties_222 : decode cL_ties 222 = .ok (.invokevirtual 20, 3) := by decide +kernel
theorem dL_ties_225 : decode cL_ties 225 = .ok (.ifCond .ne 128, 3) := by decide +kernel
theorem dL_ties_228 : decode cL_ties 228 = .ok (.aload_n 0, 1) := by decide +kernel
theorem dL_ties_229 : decode cL_ties 229 = .ok (.iconst 4, 1) := by decide +kernel
theorem dL_ties_230 : decode cL_ties 230 = .ok (.iconst 4, 1) := by decide +kernel
theorem dL_ties_231 : decode cL_ties 231 = .ok (.bipush 6, 2) := by decide +kernel
theorem dL_ties_233 : decode cL_ties 233 = .ok (.iconst 4, 1) := by decide +kernel
theorem dL_ties_234 : decode cL_ties 234 = .ok (.invokestatic 101, 3) := by decide +kernel
theorem dL_ties_237 : decode cL_ties 237 = .ok (.ifCond .eq 116, 3) := by decide +kernel
theorem dL_ties_240 : decode cL_ties 240 = .ok (.aload_n 0, 1) := by decide +kernel
theorem dL_ties_241 : decode cL_ties 241 = .ok (.bipush 7, 2) := by decide +kernel
theorem dL_ties_243 : decode cL_ties 243 = .ok (.invokevirtual 51, 3) := by decide +kernel
theorem dL_ties_246 : decode cL_ties 246 = .ok (.iconst 4, 1) := by decide +kernel
theorem dL_ties_247 : decode cL_ties 247 = .ok (.if_icmp .ne 106, 3) := by decide +kernel
theorem dL_ties_250 : decode cL_ties 250 = .ok (.aload_n 0, 1) := by decide +kernel
theorem dL_ties_251 : decode cL_ties 251 = .ok (.bipush 12, 2) := by decide +kernel
theorem dL_ties_253 : decode cL_ties 253 = .ok (.bipush 12, 2) := by decide +kernel
theorem dL_ties_255 : decode cL_ties 255 = .ok (.bipush 12, 2) := by decide +kernel
theorem dL_ties_257 : decode cL_ties 257 = .ok (.iconst 0, 1) := by decide +kernel
theorem dL_ties_258 : decode cL_ties 258 = .ok (.invokestatic 105, 3) := by decide +kernel
theorem dL_ties_261 : decode cL_ties 261 = .ok (.ifCond .eq 92, 3) := by decide +kernel
theorem dL_ties_264 : decode cL_ties 264 = .ok (.aload_n 0, 1) := by decide +kernel
theorem dL_ties_265 : decode cL_ties 265 = .ok (.iconst 0, 1) := by decide +kernel
theorem dL_ties_266 : decode cL_ties 266 = .ok (.invokevirtual 16, 3) := by decide +kernel
theorem dL_ties_269 : decode cL_ties 269 = .ok (.bipush 100, 2) := by decide +kernel
theorem dL_ties_271 : decode cL_ties 271 = .ok (.if_icmp .ne 82, 3) := by decide +kernel
theorem dL_ties_274 : decode cL_ties 274 = .ok (.aload_n 0, 1) := by decide +kernel
theorem dL_ties_275 : decode cL_ties 275 = .ok (.bipush 12, 2) := by decide +kernel
theorem dL_ties_277 : decode cL_ties 277 = .ok (.bipush 12, 2) := by decide +kernel
theorem dL_ties_279 : decode cL_ties 279 = .ok (.bipush 12, 2) := by decide +kernel
theorem dL_ties_281 : decode cL_ties 281 = .ok (.iconst 0, 1) := by decide +kernel
theorem dL_ties_282 : decode cL_ties 282 = .ok (.invokestatic 105, 3) := by decide +kernel
theorem dL_ties_285 : decode cL_ties 285 = .ok (.ifCond .eq 68, 3) := by decide +kernel
theorem dL_ties_288 : decode cL_ties 288 = .ok (.aload_n 0, 1) := by decide +kernel
theorem dL_ties_289 : decode cL_ties 289 = .ok (.iconst 2, 1) := by decide +kernel
theorem dL_ties_290 : decode cL_ties 290 = .ok (.bipush 11, 2) := by decide +kernel
theorem dL_ties_292 : decode cL_ties 292 = .ok (.invokevirtual 13, 3) := by decide +kernel
theorem dL_ties_295 : decode cL_ties 295 = .ok (.bipush 12, 2) := by decide +kernel
theorem dL_ties_297 : decode cL_ties 297 = .ok (.if_icmp .ne 56, 3) := by decide +kernel
theorem dL_ties_300 : decode cL_ties 300 = .ok (.aload_n 0, 1) := by decide +kernel
theorem dL_ties_301 : decode cL_ties 301 = .ok (.bipush 11, 2) := by decide +kernel
theorem dL_ties_303 : decode cL_ties 303 = .ok (.bipush 11, 2) := by decide +kernel
theorem dL_ties_305 : decode cL_ties 305 = .ok (.bipush 11, 2) := by decide +kernel
theorem dL_ties_307 : decode cL_ties 307 = .ok (.iconst 0, 1) := by decide +kernel
theorem dL_ties_308 : decode cL_ties 308 = .ok (.invokestatic 105, 3) := by decide +kernel
theorem dL_ties_311 : decode cL_ties 311 = .ok (.ifCond .eq 42, 3) := by decide +kernel
theorem dL_ties_314 : decode cL_ties 314 = .ok (.aload_n 0, 1) := by decide +kernel
theorem dL_ties_315 : decode cL_ties 315 = .ok (.iconst 0, 1) := by decide +kernel
theorem dL_ties_316 : decode cL_ties 316 = .ok (.invokevirtual 51, 3) := by decide +kernel
theorem dL_ties_319 : decode cL_ties 319 = .ok (.iconst 4, 1) := by decide +kernel
theorem dL_ties_320 : decode cL_ties 320 = .ok (.if_icmp .ne 33, 3) := by decide +kernel
theorem dL_ties_323 : decode cL_ties 323 = .ok (.aload_n 0, 1) := by decide +kernel
theorem dL_ties_324 : decode cL_ties 324 = .ok (.iconst 3, 1) := by decide +kernel
theorem dL_ties_325 : decode cL_ties 325 = .ok (.invokevirtual 51, 3) := by decide +kernel
theorem dL_ties_328 : decode cL_ties 328 = .ok (.iconst 4, 1) := by decide +kernel
theorem dL_ties_329 : decode cL_ties 329 = .ok (.if_icmp .ne 24, 3) := by decide +kernel
theorem dL_ties_332 : decode cL_ties 332 = .ok (.aload_n 0, 1) := by decide +kernel
theorem dL_ties_333 : decode cL_ties 333 = .ok (.bipush 6, 2) := by decide +kernel
theorem dL_ties_335 : decode cL_ties 335 = .ok (.invokevirtual 51, 3) := by decide +kernel
theorem dL_ties_338 : decode cL_ties 338 = .ok (.iconst 3, 1) := by decide +kernel
theorem dL_ties_339 : decode cL_ties 339 = .ok (.if_icmp .ne 14, 3) := by decide +kernel
theorem dL_ties_342 : decode cL_ties 342 = .ok (.aload_n 0, 1) := by decide +kernel
theorem dL_ties_343 : decode cL_ties 343 = .ok (.invokestatic 97, 3) := by decide +kernel
theorem dL_ties_346 : decode cL_ties 346 = .ok (.ifCond .eq 7, 3) := by decide +kernel
theorem dL_ties_349 : decode cL_ties 349 = .ok (.iconst 1, 1) := by decide +kernel
theorem dL_ties_350 : decode cL_ties 350 = .ok (.goto 4, 3) := by decide +kernel
theorem dL_ties_353 : decode cL_ties 353 = .ok (.iconst 0, 1) := by decide +kernel
theorem dL_ties_354 : decode cL_ties 354 = .ok (.ireturn, 1) := by decide +kernel
set_option maxRecDepth 20000 in
theorem ggL_law_L_shares : GoodIn wsL_law wsL_shares := goodIn_ca (goodIn_ca (goodIn_ca (goodIn_r _ [7, 0, 1, 2, 8, 3, 9, 10, 11, 12, 13, 14, 15, 16, 17, 18, 19, 20, 21, 22, 23, 24, 25, 26, 27, 28, 29, 30, 31, 32, 33, 34, 35, 36, 37, 38, 39, 40, 41, 42, 43, 44, 45, 46, 47, 48, 49, 50, 51, 52, 53, 54, 55, 56, 57, 58, 59, 60, 61, 62, 63, 64, 65, 66, 67, 68, 69, 70, 71, 72, 73, 74, 75, 76, 77, 78, 79, 80, 81, 82, 83, 84, 85, 86, 87, 88, 89, 90, 91, 92, 93, 94, 95, 96, 97, 98, 99, 100, 101, 102, 103, 104, 105, 106, 107, 108, 109, 110, 111, 112, 113, 114, 115, 116, 117, 118, 119, 120, 121, 122, 123, 124, 125, 126, 127, 128, 129, 130, 131, 132, 133, 134, 135, 136, 137, 138, 139, 140, 141, 142, 143, 144, 145, 146, 147, 148, 149, 150, 151, 152, 153, 154, 155, 156, 157, 158, 159, 160, 161, 162, 163, 164, 165, 166, 6, 167, 168, 169, 170, 171, 172, 173, 174, 175, 176, 177, 178, 179, 180, 181, 182, 183, 184, 185, 186, 187, 188, 189, 190, 191, 192, 193, 194, 195, 196, 197, 198, 199, 200, 201, 202, 203, 204, 205, 206, 207, 208, 209, 210, 211, 212, 213, 214, 215, 216, 217, 218, 219, 220, 221, 222, 223, 224, 225, 226, 227, 228, 229, 230, 231, 232, 233, 234, 235, 236, 237, 238, 239, 240, 241, 242, 243, 244, 245, 246, 247, 248, 249, 250, 251, 252, 253, 254, 255, 256, 257, 258, 269, 270, 271, 272, 273, 274, 275, 276, 277, 278, 279, 280, 281, 282, 283, 284] (by decide +kernel) (by decide +kernel)) (goodIn_sub (fun _ h => List.mem_append_left _ (List.mem_append_left _ (List.mem_append_right _ h))) (by decide +kernel))) (goodIn_sub (fun _ h => List.mem_append_left _ (List.mem_append_right _ h)) (by decide +kernel))) (goodIn_sub (fun _ h => List.mem_append_right _ h) (by decide +kernel))
set_option maxRecDepth 20000 in
theorem gL_law_L_shares : GoodIn wsL_law (va_wsS RL 111 yL_shares wsL_shares) := goodIn_app (goodIn_of _ (by decide +kernel)) ggL_law_L_shares
set_option maxRecDepth 20000 in
theorem ggL_law_L_cars : GoodIn wsL_law wsL_cars := goodIn_ca (goodIn_ca (goodIn_ca (goodIn_r _ [261, 0, 1, 2, 9, 10, 11, 12, 13, 14, 15, 16, 17, 18, 19, 20, 21, 22, 23, 24, 25, 26, 27, 172, 173, 174, 175, 176, 177, 32, 136, 137, 138, 139, 140, 154, 155, 156, 190, 191, 192, 193, 57, 194, 195, 196, 197, 198, 199, 200, 201, 202, 203, 97, 98, 99, 100, 65, 66, 67, 68, 49, 50, 51, 52, 58, 59, 60, 61, 101, 102, 103, 104, 105, 106, 107, 62, 63, 64, 233, 234, 235, 236, 45, 46, 47, 48, 53, 54, 55, 56, 128, 129, 130, 131, 149, 150, 151, 152, 153, 37, 38, 39, 40, 41, 42, 43, 44, 69, 70, 71, 72, 73, 74, 75, 76, 77, 78, 79, 80, 81, 82, 83, 84, 85, 86, 87, 88, 89, 90, 91, 92, 93, 94, 95, 96, 108, 109, 110, 111, 112, 113, 114, 115, 116, 117, 118, 119, 120, 121, 122, 123, 157, 158, 159, 160, 221, 222, 223, 224, 225, 226, 227, 228, 229, 230, 231, 232, 209, 210, 211, 212, 241, 242, 243, 244, 213, 214, 215, 216, 33, 34, 35, 36, 217, 218, 219, 220, 237, 238, 239, 240, 204, 205, 206, 207, 208, 262, 263, 264, 265, 249, 250, 251, 252, 245, 246, 6, 247, 248, 171, 8, 28, 29, 30, 31, 161, 162, 163, 164, 165, 166, 167, 168, 169, 170, 3, 178, 179, 180, 181, 182, 183, 184, 185, 186, 187, 188, 189, 132, 133, 134, 135, 141, 142, 143, 144, 145, 146, 147, 148, 269, 270, 271, 272, 273, 274, 275, 276, 277, 278, 279, 280, 281, 282, 283, 284] (by decide +kernel) (by decide +kernel)) (goodIn_sub (fun _ h => List.mem_append_left _ (List.mem_append_right _ h)) (by decide +kernel))) (goodIn_sub (fun _ h => List.mem_append_left _ (List.mem_append_left _ (List.mem_append_right _ h))) (by decide +kernel))) (goodIn_sub (fun _ h => List.mem_append_right _ h) (by decide +kernel))
set_option maxRecDepth 20000 in
theorem gL_law_L_cars : GoodIn wsL_law (va_wsS RL 114 yL_cars wsL_cars) := goodIn_app (goodIn_of _ (by decide +kernel)) ggL_law_L_cars
set_option maxRecDepth 20000 in
theorem ggL_law_L_ties : GoodIn wsL_law wsL_ties := goodIn_ca (goodIn_ca (goodIn_ca (goodIn_r _ [268, 0, 1, 2, 3, 9, 10, 11, 12, 13, 14, 15, 16, 17, 18, 19, 20, 21, 22, 23, 24, 25, 26, 27, 165, 166, 6, 167, 168, 169, 170, 8, 171, 172, 173, 174, 175, 176, 177, 32, 136, 137, 138, 139, 140, 154, 155, 156, 178, 179, 180, 181, 182, 183, 184, 185, 186, 187, 188, 189, 190, 191, 192, 193, 57, 194, 195, 196, 197, 198, 199, 200, 201, 202, 203, 97, 98, 99, 100, 65, 66, 67, 68, 49, 50, 51, 52, 58, 59, 60, 61, 101, 102, 103, 104, 105, 106, 107, 62, 63, 64, 204, 205, 206, 207, 208, 209, 210, 211, 212, 213, 214, 215, 216, 217, 218, 219, 220, 149, 150, 151, 152, 153, 37, 38, 39, 40, 41, 42, 43, 44, 45, 46, 47, 48, 53, 54, 55, 56, 69, 70, 71, 72, 73, 74, 75, 76, 77, 78, 79, 80, 81, 82, 83, 84, 85, 86, 87, 88, 89, 90, 91, 92, 93, 94, 95, 96, 108, 109, 110, 111, 112, 113, 114, 115, 116, 117, 118, 119, 120, 121, 122, 123, 157, 158, 159, 160, 221, 222, 223, 224, 225, 226, 227, 228, 229, 230, 231, 232, 233, 234, 235, 236, 237, 238, 239, 240, 241, 242, 243, 244, 132, 133, 134, 135, 141, 142, 143, 144, 145, 146, 147, 148, 253, 254, 255, 33, 34, 35, 36, 256, 257, 258, 124, 125, 126, 127, 245, 246, 247, 248, 28, 29, 30, 31, 161, 162, 163, 164, 249, 250, 251, 252, 269, 270, 271, 272, 273, 274, 275, 276, 277, 278, 279, 280, 281, 282, 283, 284] (by decide +kernel) (by decide +kernel)) (goodIn_sub (fun _ h => List.mem_append_left _ (List.mem_append_right _ h)) (by decide +kernel))) (goodIn_sub (fun _ h => List.mem_append_left _ (List.mem_append_left _ (List.mem_append_right _ h))) (by decide +kernel))) (goodIn_sub (fun _ h => List.mem_append_right _ h) (by decide +kernel))
set_option maxRecDepth 20000 in
theorem gL_law_L_ties : GoodIn wsL_law (va_wsS RL 117 yL_ties wsL_ties) := goodIn_app (goodIn_of _ (by decide +kernel)) ggL_law_L_ties
set_option maxRecDepth 20000 in
theorem ggL_law_X0_init : GoodIn wsL_law wsX0_init := goodIn_r _ [11, 12, 13, 14, 15, 16, 17, 18, 19, 20, 21, 22, 23, 24, 25, 26, 27, 269, 270, 271, 272, 273, 274, 275, 276, 277, 278, 279, 280, 281, 282, 283, 284] (by decide +kernel) (by decide +kernel)
set_option maxRecDepth 20000 in
theorem gL_law_X0_init : GoodIn wsL_law (wsX0_init) := ggL_law_X0_init
set_option maxRecDepth 20000 in
theorem ggL_law_X0_point : GoodIn wsL_law wsX0_point := goodIn_ca (goodIn_ca (goodIn_r _ [175, 176, 177, 32, 16, 17, 18, 136, 137, 2, 138, 139, 140, 154, 155, 156, 269, 270, 271, 272, 273, 274, 275, 276, 277, 278, 279, 280, 281, 282, 283, 284] (by decide +kernel) (by decide +kernel)) (goodIn_sub (fun _ h => List.mem_append_left _ (List.mem_append_right _ h)) (by decide +kernel))) (goodIn_sub (fun _ h => List.mem_append_left _ (List.mem_append_left _ (List.mem_append_right _ h))) (by decide +kernel))
set_option maxRecDepth 20000 in
theorem gL_law_X0_point : GoodIn wsL_law (wsV RL 7 RX0 yX0_point wsX0_point) := goodIn_app (goodIn_of _ (by decide +kernel)) ggL_law_X0_point
set_option maxRecDepth 20000 in
theorem ggL_law_X0_points : GoodIn wsL_law wsX0_points := goodIn_r _ [31, 32, 269, 270, 271, 272, 273, 274, 275, 276, 277, 278, 279, 280, 281, 282, 283, 284] (by decide +kernel) (by decide +kernel)
set_option maxRecDepth 20000 in
theorem gL_law_X0_points : GoodIn wsL_law (wsV RL 69 RX0 yX0_points wsX0_points) := goodIn_app (goodIn_of _ (by decide +kernel)) ggL_law_X0_points
set_option maxRecDepth 20000 in
theorem ggL_law_X0_need : GoodIn wsL_law wsX0_need := goodIn_ca (goodIn_r _ [224, 18, 194, 195, 196, 2, 197, 198, 199, 32, 269, 270, 271, 272, 273, 274, 275, 276, 277, 278, 279, 280, 281, 282, 283, 284] (by decide +kernel) (by decide +kernel)) (goodIn_sub (fun _ h => List.mem_append_right _ h) (by decide +kernel))
set_option maxRecDepth 20000 in
theorem gL_law_X0_need : GoodIn wsL_law (wsV RL 39 RX0 yX0_need wsX0_need) := goodIn_app (goodIn_of _ (by decide +kernel)) ggL_law_X0_need
set_option maxRecDepth 20000 in
theorem ggL_law_L_act : GoodIn wsL_law wsL_act := goodIn_ca (goodIn_ca (goodIn_ca (goodIn_r _ [167, 168, 169, 170, 8, 171, 3, 172, 173, 174, 2, 175, 176, 177, 32, 16, 17, 18, 136, 137, 138, 139, 140, 154, 155, 156, 178, 179, 180, 181, 25, 182, 183, 184, 185, 26, 186, 187, 188, 189, 27, 190, 191, 192, 193, 19, 20, 57, 194, 195, 196, 197, 198, 199, 200, 201, 202, 203, 97, 98, 99, 100, 65, 66, 67, 68, 49, 50, 51, 52, 58, 59, 60, 61, 101, 102, 103, 104, 105, 106, 107, 62, 63, 64, 204, 205, 206, 207, 208, 209, 210, 211, 212, 213, 214, 215, 216, 217, 218, 219, 220, 149, 150, 151, 152, 153, 37, 38, 39, 40, 41, 42, 43, 44, 22, 21, 24, 45, 46, 47, 48, 53, 54, 55, 56, 69, 70, 71, 72, 73, 74, 75, 76, 77, 78, 79, 80, 81, 82, 83, 84, 85, 86, 87, 88, 89, 90, 91, 92, 23, 93, 94, 95, 96, 108, 109, 110, 111, 112, 113, 114, 115, 116, 117, 118, 119, 120, 121, 122, 123, 157, 158, 159, 160, 221, 222, 223, 224, 225, 226, 227, 228, 229, 230, 231, 232, 233, 234, 235, 236, 237, 238, 239, 240, 241, 242, 243, 244, 132, 133, 134, 135, 141, 142, 143, 144, 145, 146, 147, 148, 269, 270, 271, 272, 273, 274, 275, 276, 277, 278, 279, 280, 281, 282, 283, 284] (by decide +kernel) (by decide +kernel)) (goodIn_sub (fun _ h => List.mem_append_left _ (List.mem_append_right _ h)) (by decide +kernel))) (goodIn_sub (fun _ h => List.mem_append_left _ (List.mem_append_left _ (List.mem_append_right _ h))) (by decide +kernel))) (goodIn_sub (fun _ h => List.mem_append_right _ h) (by decide +kernel))
set_option maxRecDepth 20000 in
theorem gL_law_L_act : GoodIn wsL_law (va_wsS RL 83 yL_act wsL_act) := goodIn_app (goodIn_of _ (by decide +kernel)) ggL_law_L_act
set_option maxRecDepth 20000 in
theorem ggL_law_X0_plugIn : GoodIn wsL_law wsX0_plugIn := goodIn_ca (goodIn_ca (goodIn_ca (goodIn_r _ [193, 176, 177, 18, 19, 20, 57, 194, 195, 196, 2, 197, 198, 199, 32, 154, 155, 156, 139, 140, 200, 201, 202, 203, 97, 98, 99, 100, 65, 66, 67, 68, 17, 49, 50, 51, 52, 58, 59, 60, 61, 16, 101, 102, 103, 104, 105, 106, 107, 62, 63, 64, 269, 270, 271, 272, 273, 274, 275, 276, 277, 278, 279, 280, 281, 282, 283, 284] (by decide +kernel) (by decide +kernel)) (goodIn_sub (fun _ h => List.mem_append_left _ (List.mem_append_right _ h)) (by decide +kernel))) (goodIn_sub (fun _ h => List.mem_append_right _ h) (by decide +kernel))) (goodIn_sub (fun _ h => List.mem_append_left _ (List.mem_append_left _ (List.mem_append_right _ h))) (by decide +kernel))
set_option maxRecDepth 20000 in
theorem gL_law_X0_plugIn : GoodIn wsL_law (wsV RL 23 RX0 yX0_plugIn wsX0_plugIn) := goodIn_app (goodIn_of _ (by decide +kernel)) ggL_law_X0_plugIn
set_option maxRecDepth 20000 in
theorem ggL_law_L_refuses : GoodIn wsL_law wsL_refuses := goodIn_ca (goodIn_ca (goodIn_ca (goodIn_r _ [247, 248, 171, 8, 28, 29, 30, 2, 31, 32, 161, 162, 163, 164, 57, 249, 250, 251, 252, 153, 33, 34, 35, 36, 22, 21, 37, 38, 39, 40, 27, 41, 42, 43, 44, 24, 45, 46, 47, 48, 18, 49, 50, 51, 52, 53, 54, 55, 56, 20, 58, 59, 60, 61, 16, 62, 63, 64, 65, 66, 67, 68, 17, 19, 69, 70, 71, 72, 73, 74, 75, 76, 77, 78, 79, 80, 25, 81, 82, 83, 84, 85, 86, 87, 88, 89, 90, 91, 92, 23, 93, 94, 95, 96, 97, 98, 99, 100, 101, 102, 103, 104, 105, 106, 107, 108, 109, 110, 111, 26, 112, 113, 114, 115, 116, 117, 118, 119, 120, 121, 122, 123, 165, 166, 6, 167, 168, 169, 170, 3, 172, 173, 174, 175, 176, 177, 136, 137, 138, 139, 140, 154, 155, 156, 178, 179, 180, 181, 182, 183, 184, 185, 186, 187, 188, 189, 190, 191, 192, 193, 194, 195, 196, 197, 198, 199, 200, 201, 202, 203, 204, 205, 206, 207, 208, 209, 210, 211, 212, 213, 214, 215, 216, 217, 218, 219, 220, 149, 150, 151, 152, 157, 158, 159, 160, 221, 222, 223, 224, 225, 226, 227, 228, 229, 230, 231, 232, 233, 234, 235, 236, 237, 238, 239, 240, 241, 242, 243, 244, 132, 133, 134, 135, 141, 142, 143, 144, 145, 146, 147, 148, 269, 270, 271, 272, 273, 274, 275, 276, 277, 278, 279, 280, 281, 282, 283, 284] (by decide +kernel) (by decide +kernel)) (goodIn_sub (fun _ h => List.mem_append_left _ (List.mem_append_right _ h)) (by decide +kernel))) (goodIn_sub (fun _ h => List.mem_append_left _ (List.mem_append_left _ (List.mem_append_right _ h))) (by decide +kernel))) (goodIn_sub (fun _ h => List.mem_append_right _ h) (by decide +kernel))
set_option maxRecDepth 20000 in
theorem gL_law_L_refuses : GoodIn wsL_law (va_wsS RL 97 yL_refuses wsL_refuses) := goodIn_app (goodIn_of _ (by decide +kernel)) ggL_law_L_refuses
set_option maxRecDepth 20000 in
theorem ggL_law_X0_step : GoodIn wsL_law wsX0_step := goodIn_ca (goodIn_r _ [152, 153, 57, 154, 155, 2, 156, 139, 140, 37, 38, 39, 40, 27, 41, 42, 43, 44, 32, 22, 21, 24, 45, 46, 47, 48, 18, 49, 50, 51, 52, 53, 54, 55, 56, 20, 58, 59, 60, 61, 16, 62, 63, 64, 65, 66, 67, 68, 17, 19, 69, 70, 71, 72, 73, 74, 75, 76, 77, 78, 79, 80, 25, 81, 82, 83, 84, 85, 86, 87, 88, 89, 90, 91, 92, 23, 93, 94, 95, 96, 97, 98, 99, 100, 101, 102, 103, 104, 105, 106, 107, 108, 109, 110, 111, 26, 112, 113, 114, 115, 116, 117, 118, 119, 120, 121, 122, 123, 157, 158, 159, 160, 269, 270, 271, 272, 273, 274, 275, 276, 277, 278, 279, 280, 281, 282, 283, 284] (by decide +kernel) (by decide +kernel)) (goodIn_sub (fun _ h => List.mem_append_left _ (List.mem_append_left _ (List.mem_append_right _ h))) (by decide +kernel))
set_option maxRecDepth 20000 in
theorem gL_law_X0_step : GoodIn wsL_law (wsV RL 36 RX0 yX0_step wsX0_step) := goodIn_app (goodIn_of _ (by decide +kernel)) ggL_law_X0_step
theorem dL_law_0 : decode cL_law 0 = .ok (.invokestatic 111, 3) := by decide +kernel
theorem dL_law_3 : decode cL_law 3 = .ok (.ifCond .eq 15, 3) := by decide +kernel
theorem dL_law_6 : decode cL_law 6 = .ok (.invokestatic 114, 3) := by decide +kernel
theorem dL_law_9 : decode cL_law 9 = .ok (.ifCond .eq 9, 3) := by decide +kernel
theorem dL_law_12 : decode cL_law 12 = .ok (.invokestatic 117, 3) := by decide +kernel
theorem dL_law_15 : decode cL_law 15 = .ok (.ifCond .ne 5, 3) := by decide +kernel
theorem dL_law_18 : decode cL_law 18 = .ok (.iconst 0, 1) := by decide +kernel
theorem dL_law_19 : decode cL_law 19 = .ok (.ireturn, 1) := by decide +kernel
theorem dL_law_20 : decode cL_law 20 = .ok (.new 8, 3) := by decide +kernel
theorem dL_law_23 : decode cL_law 23 = .ok (.dup, 1) := by decide +kernel
theorem dL_law_24 : decode cL_law 24 = .ok (.invokespecial 92, 3) := by decide +kernel
theorem dL_law_27 : decode cL_law 27 = .ok (.astore_n 1, 1) := by decide +kernel
theorem dL_law_28 : decode cL_law 28 = .ok (.iconst 0, 1) := by decide +kernel
theorem dL_law_29 : decode cL_law 29 = .ok (.istore_n 2, 1) := by decide +kernel
theorem dL_law_30 : decode cL_law 30 = .ok (.iload_n 2, 1) := by decide +kernel
theorem dL_law_31 : decode cL_law 31 = .ok (.bipush 30, 2) := by decide +kernel
theorem dL_law_33 : decode cL_law 33 = .ok (.if_icmp .ge 194, 3) := by decide +kernel
theorem dL_law_36 : decode cL_law 36 = .ok (.aload_n 0, 1) := by decide +kernel
theorem dL_law_37 : decode cL_law 37 = .ok (.arraylength, 1) := by decide +kernel
theorem dL_law_38 : decode cL_law 38 = .ok (.ifCond .ne 10, 3) := by decide +kernel
theorem dL_law_41 : decode cL_law 41 = .ok (.bipush 41, 2) := by decide +kernel
theorem dL_law_43 : decode cL_law 43 = .ok (.iload_n 2, 1) := by decide +kernel
theorem dL_law_44 : decode cL_law 44 = .ok (.imul, 1) := by decide +kernel
theorem dL_law_45 : decode cL_law 45 = .ok (.goto 12, 3) := by decide +kernel
theorem dL_law_48 : decode cL_law 48 = .ok (.aload_n 0, 1) := by decide +kernel
theorem dL_law_49 : decode cL_law 49 = .ok (.iload_n 2, 1) := by decide +kernel
theorem dL_law_50 : decode cL_law 50 = .ok (.aload_n 0, 1) := by decide +kernel
theorem dL_law_51 : decode cL_law 51 = .ok (.arraylength, 1) := by decide +kernel
theorem dL_law_52 : decode cL_law 52 = .ok (.irem, 1) := by decide +kernel
theorem dL_law_53 : decode cL_law 53 = .ok (.iaload, 1) := by decide +kernel
theorem dL_law_54 : decode cL_law 54 = .ok (.bipush 7, 2) := by decide +kernel
theorem dL_law_56 : decode cL_law 56 = .ok (.iushr, 1) := by decide +kernel
theorem dL_law_57 : decode cL_law 57 = .ok (.istore_n 3, 1) := by decide +kernel
theorem dL_law_58 : decode cL_law 58 = .ok (.iload_n 2, 1) := by decide +kernel
theorem dL_law_59 : decode cL_law 59 = .ok (.bipush 8, 2) := by decide +kernel
theorem dL_law_61 : decode cL_law 61 = .ok (.if_icmp .ge 23, 3) := by decide +kernel
theorem dL_law_64 : decode cL_law 64 = .ok (.aload_n 1, 1) := by decide +kernel
theorem dL_law_65 : decode cL_law 65 = .ok (.iload_n 3, 1) := by decide +kernel
theorem dL_law_66 : decode cL_law 66 = .ok (.iconst 4, 1) := by decide +kernel
theorem dL_law_67 : decode cL_law 67 = .ok (.irem, 1) := by decide +kernel
theorem dL_law_68 : decode cL_law 68 = .ok (.bipush 6, 2) := by decide +kernel
theorem dL_law_70 : decode cL_law 70 = .ok (.iload_n 3, 1) := by decide +kernel
theorem dL_law_71 : decode cL_law 71 = .ok (.bipush 27, 2) := by decide +kernel
theorem dL_law_73 : decode cL_law 73 = .ok (.irem, 1) := by decide +kernel
theorem dL_law_74 : decode cL_law 74 = .ok (.iadd, 1) := by decide +kernel
theorem dL_law_75 : decode cL_law 75 = .ok (.invokevirtual 7, 3) := by decide +kernel
theorem dL_law_78 : decode cL_law 78 = .ok (.iload_n 2, 1) := by decide +kernel
theorem dL_law_79 : decode cL_law 79 = .ok (.if_icmp .eq 5, 3) := by decide +kernel
theorem dL_law_82 : decode cL_law 82 = .ok (.iconst 0, 1) := by decide +kernel
theorem dL_law_83 : decode cL_law 83 = .ok (.ireturn, 1) := by decide +kernel
theorem dL_law_84 : decode cL_law 84 = .ok (.iload_n 3, 1) := by decide +kernel
theorem dL_law_85 : decode cL_law 85 = .ok (.aload_n 1, 1) := by decide +kernel
theorem dL_law_86 : decode cL_law 86 = .ok (.invokevirtual 69, 3) := by decide +kernel
theorem dL_law_89 : decode cL_law 89 = .ok (.irem, 1) := by decide +kernel
theorem dL_law_90 : decode cL_law 90 = .ok (.istore 4, 2) := by decide +kernel
theorem dL_law_92 : decode cL_law 92 = .ok (.aload_n 1, 1) := by decide +kernel
theorem dL_law_93 : decode cL_law 93 = .ok (.iload 4, 2) := by decide +kernel
theorem dL_law_95 : decode cL_law 95 = .ok (.invokevirtual 39, 3) := by decide +kernel
theorem dL_law_98 : decode cL_law 98 = .ok (.ifCond .lt 7, 3) := by decide +kernel
theorem dL_law_101 : decode cL_law 101 = .ok (.iconst 1, 1) := by decide +kernel
theorem dL_law_102 : decode cL_law 102 = .ok (.goto 4, 3) := by decide +kernel
theorem dL_law_105 : decode cL_law 105 = .ok (.iconst 0, 1) := by decide +kernel
theorem dL_law_106 : decode cL_law 106 = .ok (.istore 5, 2) := by decide +kernel
theorem dL_law_108 : decode cL_law 108 = .ok (.aload_n 1, 1) := by decide +kernel
theorem dL_law_109 : decode cL_law 109 = .ok (.iconst 4, 1) := by decide +kernel
theorem dL_law_110 : decode cL_law 110 = .ok (.iload 4, 2) := by decide +kernel
theorem dL_law_112 : decode cL_law 112 = .ok (.iconst 1, 1) := by decide +kernel
theorem dL_law_113 : decode cL_law 113 = .ok (.iload_n 3, 1) := by decide +kernel
theorem dL_law_114 : decode cL_law 114 = .ok (.sipush 5000, 3) := by decide +kernel
theorem dL_law_117 : decode cL_law 117 = .ok (.irem, 1) := by decide +kernel
theorem dL_law_118 : decode cL_law 118 = .ok (.iadd, 1) := by decide +kernel
theorem dL_law_119 : decode cL_law 119 = .ok (.iconst 1, 1) := by decide +kernel
theorem dL_law_120 : decode cL_law 120 = .ok (.iload_n 3, 1) := by decide +kernel
theorem dL_law_121 : decode cL_law 121 = .ok (.bipush 32, 2) := by decide +kernel
theorem dL_law_123 : decode cL_law 123 = .ok (.irem, 1) := by decide +kernel
theorem dL_law_124 : decode cL_law 124 = .ok (.iadd, 1) := by decide +kernel
theorem dL_law_125 : decode cL_law 125 = .ok (.iconst 1, 1) := by decide +kernel
theorem dL_law_126 : decode cL_law 126 = .ok (.iload_n 3, 1) := by decide +kernel
theorem dL_law_127 : decode cL_law 127 = .ok (.sipush 500, 3) := by decide +kernel
theorem dL_law_130 : decode cL_law 130 = .ok (.irem, 1) := by decide +kernel
theorem dL_law_131 : decode cL_law 131 = .ok (.iadd, 1) := by decide +kernel
theorem dL_law_132 : decode cL_law 132 = .ok (.invokestatic 83, 3) := by decide +kernel
theorem dL_law_135 : decode cL_law 135 = .ok (.ldc 68, 2) := by decide +kernel
theorem dL_law_137 : decode cL_law 137 = .ok (.if_icmp .ne 7, 3) := by decide +kernel
theorem dL_law_140 : decode cL_law 140 = .ok (.iconst 1, 1) := by decide +kernel
theorem dL_law_141 : decode cL_law 141 = .ok (.goto 4, 3) := by decide +kernel
theorem dL_law_144 : decode cL_law 144 = .ok (.iconst 0, 1) := by decide +kernel
theorem dL_law_145 : decode cL_law 145 = .ok (.iload 5, 2) := by decide +kernel
theorem dL_law_147 : decode cL_law 147 = .ok (.if_icmp .ne 72, 3) := by decide +kernel
theorem dL_law_150 : decode cL_law 150 = .ok (.aload_n 1, 1) := by decide +kernel
theorem dL_law_151 : decode cL_law 151 = .ok (.iconst 5, 1) := by decide +kernel
theorem dL_law_152 : decode cL_law 152 = .ok (.iload 4, 2) := by decide +kernel
theorem dL_law_154 : decode cL_law 154 = .ok (.iconst 0, 1) := by decide +kernel
theorem dL_law_155 : decode cL_law 155 = .ok (.iconst 0, 1) := by decide +kernel
theorem dL_law_156 : decode cL_law 156 = .ok (.iconst 0, 1) := by decide +kernel
theorem dL_law_157 : decode cL_law 157 = .ok (.invokestatic 83, 3) := by decide +kernel
theorem dL_law_160 : decode cL_law 160 = .ok (.ifCond .lt 59, 3) := by decide +kernel
theorem dL_law_163 : decode cL_law 163 = .ok (.aload_n 1, 1) := by decide +kernel
theorem dL_law_164 : decode cL_law 164 = .ok (.iload 4, 2) := by decide +kernel
theorem dL_law_166 : decode cL_law 166 = .ok (.iconst 1, 1) := by decide +kernel
theorem dL_law_167 : decode cL_law 167 = .ok (.iload_n 3, 1) := by decide +kernel
theorem dL_law_168 : decode cL_law 168 = .ok (.sipush 300, 3) := by decide +kernel
theorem dL_law_171 : decode cL_law 171 = .ok (.irem, 1) := by decide +kernel
theorem dL_law_172 : decode cL_law 172 = .ok (.iadd, 1) := by decide +kernel
theorem dL_law_173 : decode cL_law 173 = .ok (.iconst 1, 1) := by decide +kernel
theorem dL_law_174 : decode cL_law 174 = .ok (.iload_n 3, 1) := by decide +kernel
theorem dL_law_175 : decode cL_law 175 = .ok (.bipush 32, 2) := by decide +kernel
theorem dL_law_177 : decode cL_law 177 = .ok (.irem, 1) := by decide +kernel
theorem dL_law_178 : decode cL_law 178 = .ok (.iadd, 1) := by decide +kernel
theorem dL_law_179 : decode cL_law 179 = .ok (.iconst 1, 1) := by decide +kernel
theorem dL_law_180 : decode cL_law 180 = .ok (.iload_n 3, 1) := by decide +kernel
theorem dL_law_181 : decode cL_law 181 = .ok (.bipush 20, 2) := by decide +kernel
theorem dL_law_183 : decode cL_law 183 = .ok (.irem, 1) := by decide +kernel
theorem dL_law_184 : decode cL_law 184 = .ok (.iadd, 1) := by decide +kernel
theorem dL_law_185 : decode cL_law 185 = .ok (.invokevirtual 23, 3) := by decide +kernel
theorem dL_law_188 : decode cL_law 188 = .ok (.sipush (-300), 3) := by decide +kernel
theorem dL_law_191 : decode cL_law 191 = .ok (.if_icmp .lt 28, 3) := by decide +kernel
theorem dL_law_194 : decode cL_law 194 = .ok (.iload_n 2, 1) := by decide +kernel
theorem dL_law_195 : decode cL_law 195 = .ok (.iconst 5, 1) := by decide +kernel
theorem dL_law_196 : decode cL_law 196 = .ok (.irem, 1) := by decide +kernel
theorem dL_law_197 : decode cL_law 197 = .ok (.ifCond .ne 24, 3) := by decide +kernel
theorem dL_law_200 : decode cL_law 200 = .ok (.aload_n 1, 1) := by decide +kernel
theorem dL_law_201 : decode cL_law 201 = .ok (.invokestatic 97, 3) := by decide +kernel
theorem dL_law_204 : decode cL_law 204 = .ok (.ifCond .eq 15, 3) := by decide +kernel
theorem dL_law_207 : decode cL_law 207 = .ok (.aload_n 1, 1) := by decide +kernel
theorem dL_law_208 : decode cL_law 208 = .ok (.iconst 1, 1) := by decide +kernel
theorem dL_law_209 : decode cL_law 209 = .ok (.iload_n 3, 1) := by decide +kernel
theorem dL_law_210 : decode cL_law 210 = .ok (.iconst 4, 1) := by decide +kernel
theorem dL_law_211 : decode cL_law 211 = .ok (.irem, 1) := by decide +kernel
theorem dL_law_212 : decode cL_law 212 = .ok (.iadd, 1) := by decide +kernel
theorem dL_law_213 : decode cL_law 213 = .ok (.invokevirtual 36, 3) := by decide +kernel
theorem dL_law_216 : decode cL_law 216 = .ok (.ifCond .ge 5, 3) := by decide +kernel
theorem dL_law_219 : decode cL_law 219 = .ok (.iconst 0, 1) := by decide +kernel
theorem dL_law_220 : decode cL_law 220 = .ok (.ireturn, 1) := by decide +kernel
theorem dL_law_221 : decode cL_law 221 = .ok (.iinc 2 1, 3) := by decide +kernel
theorem dL_law_224 : decode cL_law 224 = .ok (.goto (-194), 3) := by decide +kernel
theorem dL_law_227 : decode cL_law 227 = .ok (.iconst 1, 1) := by decide +kernel
theorem dL_law_228 : decode cL_law 228 = .ok (.ireturn, 1) := by decide +kernel
abbrev vwCl : List vw_C := [(RX0, TX0, 16)]
