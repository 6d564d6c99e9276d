set_option maxRecDepth 20000 in
theorem ggL_ties_X0_init : GoodIn wsL_ties wsX0_init := goodIn_r _ [7, 8, 9, 10, 11, 12, 13, 14, 15, 16, 17, 18, 19, 20, 21, 22, 23, 253, 254, 255, 256, 257, 258, 259, 260, 261, 262, 263, 264, 265, 266, 267, 268] (by decide +kernel) (by decide +kernel)
set_option maxRecDepth 20000 in
theorem gL_ties_X0_init : GoodIn wsL_ties (wsX0_init) := ggL_ties_X0_init
set_option maxRecDepth 20000 in
theorem ggL_ties_L_act : GoodIn wsL_ties wsL_act := goodIn_ca (goodIn_ca (goodIn_ca (goodIn_r _ [27, 28, 29, 30, 31, 32, 4, 33, 34, 35, 3, 36, 37, 38, 39, 12, 13, 14, 40, 41, 42, 43, 44, 45, 46, 47, 48, 49, 50, 51, 21, 52, 53, 54, 55, 22, 56, 57, 58, 59, 23, 60, 61, 62, 63, 15, 16, 64, 65, 66, 67, 68, 69, 70, 71, 72, 73, 74, 75, 76, 77, 78, 79, 80, 81, 82, 83, 84, 85, 86, 87, 88, 89, 90, 91, 92, 93, 94, 95, 96, 97, 98, 99, 100, 101, 102, 103, 104, 105, 106, 107, 108, 109, 110, 111, 112, 113, 114, 115, 116, 117, 118, 119, 120, 121, 122, 123, 124, 125, 126, 127, 128, 129, 130, 18, 17, 20, 131, 132, 133, 134, 135, 136, 137, 138, 139, 140, 141, 142, 143, 144, 145, 146, 147, 148, 149, 150, 151, 152, 153, 154, 155, 156, 157, 158, 159, 160, 161, 162, 19, 163, 164, 165, 166, 167, 168, 169, 170, 171, 172, 173, 174, 175, 176, 177, 178, 179, 180, 181, 182, 183, 184, 185, 186, 187, 188, 189, 190, 191, 192, 193, 194, 195, 196, 197, 198, 199, 200, 201, 202, 203, 204, 205, 206, 207, 208, 209, 210, 211, 212, 213, 214, 215, 216, 217, 218, 219, 220, 221, 222, 253, 254, 255, 256, 257, 258, 259, 260, 261, 262, 263, 264, 265, 266, 267, 268] (by decide +kernel) (by decide +kernel)) (goodIn_sub (fun _ h => List.mem_cons_of_mem _ (List.mem_append_left _ (List.mem_append_left _ (List.mem_append_right _ h)))) (by decide +kernel))) (goodIn_sub (fun _ h => List.mem_cons_of_mem _ (List.mem_append_left _ (List.mem_append_right _ h))) (by decide +kernel))) (goodIn_sub (fun _ h => List.mem_cons_of_mem _ (List.mem_append_right _ h)) (by decide +kernel))
set_option maxRecDepth 20000 in
theorem gL_ties_L_act : GoodIn wsL_ties (va_wsS RL 83 yL_act wsL_act) := goodIn_app (goodIn_of _ (by decide +kernel)) ggL_ties_L_act
set_option maxRecDepth 20000 in
theorem ggL_ties_X0_plugIn : GoodIn wsL_ties wsX0_plugIn := goodIn_ca (goodIn_ca (goodIn_ca (goodIn_r _ [63, 37, 38, 14, 15, 16, 64, 65, 66, 67, 3, 68, 69, 70, 39, 45, 46, 47, 43, 44, 71, 72, 73, 74, 75, 76, 77, 78, 79, 80, 81, 82, 13, 83, 84, 85, 86, 87, 88, 89, 90, 12, 91, 92, 93, 94, 95, 96, 97, 98, 99, 100, 253, 254, 255, 256, 257, 258, 259, 260, 261, 262, 263, 264, 265, 266, 267, 268] (by decide +kernel) (by decide +kernel)) (goodIn_sub (fun _ h => List.mem_cons_of_mem _ (List.mem_append_left _ (List.mem_append_left _ (List.mem_append_right _ h)))) (by decide +kernel))) (goodIn_sub (fun _ h => List.mem_cons_of_mem _ (List.mem_append_right _ h)) (by decide +kernel))) (goodIn_sub (fun _ h => List.mem_cons_of_mem _ (List.mem_append_left _ (List.mem_append_right _ h))) (by decide +kernel))
set_option maxRecDepth 20000 in
theorem gL_ties_X0_plugIn : GoodIn wsL_ties (wsV RL 23 RX0 yX0_plugIn wsX0_plugIn) := goodIn_app (goodIn_of _ (by decide +kernel)) ggL_ties_X0_plugIn
set_option maxRecDepth 20000 in
theorem ggL_ties_X0_fuse : GoodIn wsL_ties wsX0_fuse := goodIn_ca (goodIn_r _ [51, 21, 40, 41, 3, 42, 43, 44, 45, 46, 47, 253, 254, 255, 256, 257, 258, 259, 260, 261, 262, 263, 264, 265, 266, 267, 268] (by decide +kernel) (by decide +kernel)) (goodIn_sub (fun _ h => List.mem_cons_of_mem _ (List.mem_append_left _ (List.mem_append_right _ h))) (by decide +kernel))
set_option maxRecDepth 20000 in
theorem gL_ties_X0_fuse : GoodIn wsL_ties (wsV RL 13 RX0 yX0_fuse wsX0_fuse) := goodIn_app (goodIn_of _ (by decide +kernel)) ggL_ties_X0_fuse
set_option maxRecDepth 20000 in
theorem ggL_ties_L_gives : GoodIn wsL_ties wsL_gives := goodIn_ca (goodIn_r _ [225, 203, 204, 205, 3, 206, 18, 65, 66, 67, 68, 69, 70, 39, 123, 124, 125, 126, 23, 127, 128, 129, 130, 17, 20, 131, 132, 133, 134, 14, 83, 84, 85, 86, 135, 136, 137, 138, 16, 64, 87, 88, 89, 90, 12, 98, 99, 100, 79, 80, 81, 82, 13, 15, 139, 140, 141, 142, 143, 144, 145, 146, 147, 148, 149, 150, 21, 151, 152, 153, 154, 155, 156, 157, 158, 159, 160, 161, 162, 19, 163, 164, 165, 166, 75, 76, 77, 78, 91, 92, 93, 94, 95, 96, 97, 167, 168, 169, 170, 22, 171, 172, 173, 174, 175, 176, 177, 178, 179, 180, 181, 182, 253, 254, 255, 256, 257, 258, 259, 260, 261, 262, 263, 264, 265, 266, 267, 268] (by decide +kernel) (by decide +kernel)) (goodIn_sub (fun _ h => List.mem_cons_of_mem _ (List.mem_append_right _ h)) (by decide +kernel))
set_option maxRecDepth 20000 in
theorem gL_ties_L_gives : GoodIn wsL_ties (va_wsS RL 101 yL_gives wsL_gives) := goodIn_app (goodIn_of _ (by decide +kernel)) ggL_ties_L_gives
set_option maxRecDepth 20000 in
theorem ggL_ties_X0_current : GoodIn wsL_ties wsX0_current := goodIn_ca (goodIn_r _ [206, 18, 65, 66, 67, 3, 68, 69, 70, 39, 123, 124, 125, 126, 23, 127, 128, 129, 130, 17, 20, 131, 132, 133, 134, 14, 83, 84, 85, 86, 135, 136, 137, 138, 16, 64, 87, 88, 89, 90, 12, 98, 99, 100, 79, 80, 81, 82, 13, 15, 139, 140, 141, 142, 143, 144, 145, 146, 147, 148, 149, 150, 21, 151, 152, 153, 154, 155, 156, 157, 158, 159, 160, 161, 162, 19, 163, 164, 165, 166, 75, 76, 77, 78, 91, 92, 93, 94, 95, 96, 97, 167, 168, 169, 170, 22, 171, 172, 173, 174, 175, 176, 177, 178, 179, 180, 181, 182, 253, 254, 255, 256, 257, 258, 259, 260, 261, 262, 263, 264, 265, 266, 267, 268] (by decide +kernel) (by decide +kernel)) (goodIn_sub (fun _ h => List.mem_cons_of_mem _ (List.mem_append_right _ h)) (by decide +kernel))
set_option maxRecDepth 20000 in
theorem gL_ties_X0_current : GoodIn wsL_ties (wsV RL 51 RX0 yX0_current wsX0_current) := goodIn_app (goodIn_of _ (by decide +kernel)) ggL_ties_X0_current
set_option maxRecDepth 20000 in
theorem ggL_ties_X0_held : GoodIn wsL_ties wsX0_held := goodIn_r _ [229, 39, 18, 17, 123, 124, 125, 3, 126, 23, 127, 128, 129, 130, 20, 131, 132, 133, 134, 14, 83, 84, 85, 86, 135, 136, 137, 138, 16, 64, 87, 88, 89, 90, 12, 98, 99, 100, 79, 80, 81, 82, 13, 15, 139, 140, 141, 142, 143, 144, 145, 146, 147, 148, 149, 150, 21, 151, 152, 153, 154, 155, 156, 157, 158, 159, 160, 161, 162, 19, 163, 164, 165, 166, 75, 76, 77, 78, 91, 92, 93, 94, 95, 96, 97, 167, 168, 169, 170, 22, 171, 172, 173, 174, 175, 176, 177, 178, 179, 180, 181, 182, 253, 254, 255, 256, 257, 258, 259, 260, 261, 262, 263, 264, 265, 266, 267, 268] (by decide +kernel) (by decide +kernel)
set_option maxRecDepth 20000 in
theorem gL_ties_X0_held : GoodIn wsL_ties (wsV RL 79 RX0 yX0_held wsX0_held) := goodIn_app (goodIn_of _ (by decide +kernel)) ggL_ties_X0_held
set_option maxRecDepth 20000 in
theorem ggL_ties_X0_reach : GoodIn wsL_ties wsX0_reach := goodIn_ca (goodIn_r _ [202, 65, 66, 67, 3, 68, 69, 70, 39, 131, 132, 133, 134, 14, 83, 84, 85, 86, 135, 136, 137, 138, 16, 64, 87, 88, 89, 90, 12, 98, 99, 100, 79, 80, 81, 82, 13, 15, 253, 254, 255, 256, 257, 258, 259, 260, 261, 262, 263, 264, 265, 266, 267, 268] (by decide +kernel) (by decide +kernel)) (goodIn_sub (fun _ h => List.mem_cons_of_mem _ (List.mem_append_right _ h)) (by decide +kernel))
set_option maxRecDepth 20000 in
theorem gL_ties_X0_reach : GoodIn wsL_ties (wsV RL 48 RX0 yX0_reach wsX0_reach) := goodIn_app (goodIn_of _ (by decide +kernel)) ggL_ties_X0_reach
set_option maxRecDepth 20000 in
theorem ggL_ties_X0_fairLevel : GoodIn wsL_ties wsX0_fairLevel := goodIn_ca (goodIn_r _ [214, 21, 40, 41, 3, 42, 43, 44, 123, 124, 125, 126, 23, 127, 128, 129, 130, 39, 18, 17, 20, 131, 132, 133, 134, 14, 83, 84, 85, 86, 135, 136, 137, 138, 16, 64, 87, 88, 89, 90, 12, 98, 99, 100, 79, 80, 81, 82, 13, 15, 139, 140, 141, 142, 143, 144, 145, 146, 147, 148, 149, 150, 151, 152, 153, 154, 155, 156, 157, 158, 159, 160, 161, 162, 19, 163, 164, 165, 166, 75, 76, 77, 78, 91, 92, 93, 94, 95, 96, 97, 167, 168, 169, 170, 22, 171, 172, 173, 174, 175, 176, 177, 178, 179, 180, 181, 182, 215, 216, 217, 218, 219, 220, 221, 222, 253, 254, 255, 256, 257, 258, 259, 260, 261, 262, 263, 264, 265, 266, 267, 268] (by decide +kernel) (by decide +kernel)) (goodIn_sub (fun _ h => List.mem_cons_of_mem _ (List.mem_append_left _ (List.mem_append_right _ h))) (by decide +kernel))
set_option maxRecDepth 20000 in
theorem gL_ties_X0_fairLevel : GoodIn wsL_ties (wsV RL 57 RX0 yX0_fairLevel wsX0_fairLevel) := goodIn_app (goodIn_of _ (by decide +kernel)) ggL_ties_X0_fairLevel
set_option maxRecDepth 20000 in
theorem ggL_ties_X0_rule : GoodIn wsL_ties wsX0_rule := goodIn_ca (goodIn_r _ [59, 23, 45, 46, 3, 47, 43, 44, 253, 254, 255, 256, 257, 258, 259, 260, 261, 262, 263, 264, 265, 266, 267, 268] (by decide +kernel) (by decide +kernel)) (goodIn_sub (fun _ h => List.mem_cons_of_mem _ (List.mem_append_left _ (List.mem_append_right _ h))) (by decide +kernel))
set_option maxRecDepth 20000 in
theorem gL_ties_X0_rule : GoodIn wsL_ties (wsV RL 20 RX0 yX0_rule wsX0_rule) := goodIn_app (goodIn_of _ (by decide +kernel)) ggL_ties_X0_rule
set_option maxRecDepth 20000 in
theorem ggL_ties_L_loads : GoodIn wsL_ties wsL_loads := goodIn_ca (goodIn_r _ [232, 207, 208, 209, 3, 210, 20, 40, 41, 42, 43, 44, 123, 124, 125, 126, 23, 127, 128, 129, 130, 39, 18, 17, 131, 132, 133, 134, 14, 83, 84, 85, 86, 135, 136, 137, 138, 16, 64, 87, 88, 89, 90, 12, 98, 99, 100, 79, 80, 81, 82, 13, 15, 139, 140, 141, 142, 143, 144, 145, 146, 147, 148, 149, 150, 21, 151, 152, 153, 154, 155, 156, 157, 158, 159, 160, 161, 162, 19, 163, 164, 165, 166, 75, 76, 77, 78, 91, 92, 93, 94, 95, 96, 97, 167, 168, 169, 170, 22, 171, 172, 173, 174, 175, 176, 177, 178, 179, 180, 181, 182, 233, 234, 235, 236, 253, 254, 255, 256, 257, 258, 259, 260, 261, 262, 263, 264, 265, 266, 267, 268] (by decide +kernel) (by decide +kernel)) (goodIn_sub (fun _ h => List.mem_cons_of_mem _ (List.mem_append_left _ (List.mem_append_right _ h))) (by decide +kernel))
set_option maxRecDepth 20000 in
theorem gL_ties_L_loads : GoodIn wsL_ties (va_wsS RL 105 yL_loads wsL_loads) := goodIn_app (goodIn_of _ (by decide +kernel)) ggL_ties_L_loads
set_option maxRecDepth 20000 in
theorem ggL_ties_X0_balance : GoodIn wsL_ties wsX0_balance := goodIn_ca (goodIn_r _ [55, 22, 45, 46, 3, 47, 43, 44, 253, 254, 255, 256, 257, 258, 259, 260, 261, 262, 263, 264, 265, 266, 267, 268] (by decide +kernel) (by decide +kernel)) (goodIn_sub (fun _ h => List.mem_cons_of_mem _ (List.mem_append_left _ (List.mem_append_right _ h))) (by decide +kernel))
set_option maxRecDepth 20000 in
theorem gL_ties_X0_balance : GoodIn wsL_ties (wsV RL 16 RX0 yX0_balance wsX0_balance) := goodIn_app (goodIn_of _ (by decide +kernel)) ggL_ties_X0_balance
set_option maxRecDepth 100000 in
theorem hL_ties_L_refuses_c : GoodIn wsL_ties [Cond.code yL_refuses cL_refuses 15 (some .boolean)] := gi_1 239 rfl (by decide +kernel)
set_option maxRecDepth 100000 in
theorem hL_ties_L_refuses_0 : GoodIn wsL_ties wsL_refuses_r1 := goodIn_r wsL_refuses_r1 [240, 32, 31, 241, 242, 243, 3, 244, 39, 245, 246, 247, 248, 64, 249, 250, 251, 252, 122, 226, 227, 228, 229, 18] (by decide +kernel) (by decide +kernel)
set_option maxRecDepth 100000 in
theorem hL_ties_L_refuses_1 : GoodIn wsL_ties wsL_refuses_r2 := goodIn_r wsL_refuses_r2 [17, 123, 124, 125, 126, 23, 127, 128, 129, 130, 20, 131, 132, 133, 134, 14, 83, 84, 85, 86, 135, 136, 137, 138] (by decide +kernel) (by decide +kernel)
set_option maxRecDepth 100000 in
theorem hL_ties_L_refuses_2 : GoodIn wsL_ties wsL_refuses_r3 := goodIn_r wsL_refuses_r3 [16, 87, 88, 89, 90, 12, 98, 99, 100, 79, 80, 81, 82, 13, 15, 139, 140, 141, 142, 143, 144, 145, 146, 147] (by decide +kernel) (by decide +kernel)
set_option maxRecDepth 100000 in
theorem hL_ties_L_refuses_3 : GoodIn wsL_ties wsL_refuses_r4 := goodIn_r wsL_refuses_r4 [148, 149, 150, 21, 151, 152, 153, 154, 155, 156, 157, 158, 159, 160, 161, 162, 19, 163, 164, 165, 166, 75, 76, 77] (by decide +kernel) (by decide +kernel)
set_option maxRecDepth 100000 in
theorem hL_ties_L_refuses_4 : GoodIn wsL_ties wsL_refuses_r5 := goodIn_r wsL_refuses_r5 [78, 91, 92, 93, 94, 95, 96, 97, 167, 168, 169, 170, 22, 171, 172, 173, 174, 175, 176, 177, 178, 179, 180, 181] (by decide +kernel) (by decide +kernel)
set_option maxRecDepth 100000 in
theorem hL_ties_L_refuses_5 : GoodIn wsL_ties wsL_refuses_r6 := goodIn_r wsL_refuses_r6 [182, 24, 25, 26, 27, 28, 29, 30, 4, 33, 34, 35, 36, 37, 38, 40, 41, 42, 43, 44, 45, 46, 47, 48] (by decide +kernel) (by decide +kernel)
set_option maxRecDepth 100000 in
theorem hL_ties_L_refuses_6 : GoodIn wsL_ties wsL_refuses_r7 := goodIn_r wsL_refuses_r7 [49, 50, 51, 52, 53, 54, 55, 56, 57, 58, 59, 60, 61, 62, 63, 65, 66, 67, 68, 69, 70, 71, 72, 73] (by decide +kernel) (by decide +kernel)
set_option maxRecDepth 100000 in
theorem hL_ties_L_refuses_7 : GoodIn wsL_ties wsL_refuses_r8 := goodIn_r wsL_refuses_r8 [74, 101, 102, 103, 104, 105, 106, 107, 108, 109, 110, 111, 112, 113, 114, 115, 116, 117, 118, 119, 120, 121, 183, 184] (by decide +kernel) (by decide +kernel)
set_option maxRecDepth 100000 in
theorem hL_ties_L_refuses_8 : GoodIn wsL_ties wsL_refuses_r9 := goodIn_r wsL_refuses_r9 [185, 186, 187, 188, 189, 190, 191, 192, 193, 194, 195, 196, 197, 198, 199, 200, 201, 202, 203, 204, 205, 206, 207, 208] (by decide +kernel) (by decide +kernel)
set_option maxRecDepth 100000 in
theorem hL_ties_L_refuses_9 : GoodIn wsL_ties wsL_refuses_r10 := goodIn_r wsL_refuses_r10 [209, 210, 211, 212, 213, 214, 215, 216, 217, 218, 219, 220, 221, 222] (by decide +kernel) (by decide +kernel)
set_option maxRecDepth 100000 in
theorem hL_ties_L_refuses_x : GoodIn wsL_ties wsX00 := goodIn_r wsX00 [253, 254, 255, 256, 257, 258, 259, 260, 261, 262, 263, 264, 265, 266, 267, 268] (by decide +kernel) (by decide +kernel)
set_option maxRecDepth 20000 in
theorem ggL_ties_L_refuses : GoodIn wsL_ties wsL_refuses := goodIn_ca (goodIn_ca (goodIn_ca ((gi_c hL_ties_L_refuses_c (goodIn_app (goodIn_app hL_ties_L_refuses_0 (goodIn_app hL_ties_L_refuses_1 (goodIn_app hL_ties_L_refuses_2 (goodIn_app hL_ties_L_refuses_3 (goodIn_app hL_ties_L_refuses_4 (goodIn_app hL_ties_L_refuses_5 (goodIn_app hL_ties_L_refuses_6 (goodIn_app hL_ties_L_refuses_7 (goodIn_app hL_ties_L_refuses_8 hL_ties_L_refuses_9))))))))) hL_ties_L_refuses_x))) (goodIn_sub (fun _ h => List.mem_cons_of_mem _ (List.mem_append_left _ (List.mem_append_left _ (List.mem_append_right _ h)))) (by decide +kernel))) (goodIn_sub (fun _ h => List.mem_cons_of_mem _ (List.mem_append_left _ (List.mem_append_right _ h))) (by decide +kernel))) (goodIn_sub (fun _ h => List.mem_cons_of_mem _ (List.mem_append_right _ h)) (by decide +kernel))
set_option maxRecDepth 20000 in
theorem gL_ties_L_refuses : GoodIn wsL_ties (va_wsS RL 97 yL_refuses wsL_refuses) := goodIn_app (goodIn_of _ (by decide +kernel)) ggL_ties_L_refuses
theorem dL_ties_0 : decode cL_ties 0 = .ok (.new 8, 3) := by decide +kernel
theorem dL_ties_3 : decode cL_ties 3 = .ok (.dup, 1) := by decide +kernel
theorem dL_ties_4 : decode cL_ties 4 = .ok (.invokespecial 92, 3) := by decide +kernel
theorem dL_ties_7 : decode cL_ties 7 = .ok (.astore_n 0, 1) := by decide +kernel
theorem dL_ties_8 : decode cL_ties 8 = .ok (.iconst 0, 1) := by decide +kernel
theorem dL_ties_9 : decode cL_ties 9 = .ok (.istore_n 1, 1) := by decide +kernel
theorem dL_ties_10 : decode cL_ties 10 = .ok (.iload_n 1, 1) := by decide +kernel
theorem dL_ties_11 : decode cL_ties 11 = .ok (.bipush 9, 2) := by decide +kernel
theorem dL_ties_13 : decode cL_ties 13 = .ok (.if_icmp .ge 40, 3) := by decide +kernel
theorem dL_ties_16 : decode cL_ties 16 = .ok (.aload_n 0, 1) := by decide +kernel
theorem dL_ties_17 : decode cL_ties 17 = .ok (.iconst 0, 1) := by decide +kernel
theorem dL_ties_18 : decode cL_ties 18 = .ok (.iload_n 1, 1) := by decide +kernel
theorem dL_ties_19 : decode cL_ties 19 = .ok (.iconst 3, 1) := by decide +kernel
theorem dL_ties_20 : decode cL_ties 20 = .ok (.irem, 1) := by decide +kernel
theorem dL_ties_21 : decode cL_ties 21 = .ok (.bipush 6, 2) := by decide +kernel
theorem dL_ties_23 : decode cL_ties 23 = .ok (.iload_n 1, 1) := by decide +kernel
theorem dL_ties_24 : decode cL_ties 24 = .ok (.iadd, 1) := by decide +kernel
theorem dL_ties_25 : decode cL_ties 25 = .ok (.iconst 0, 1) := by decide +kernel
theorem dL_ties_26 : decode cL_ties 26 = .ok (.iconst 0, 1) := by decide +kernel
theorem dL_ties_27 : decode cL_ties 27 = .ok (.invokestatic 83, 3) := by decide +kernel
theorem dL_ties_30 : decode cL_ties 30 = .ok (.iload_n 1, 1) := by decide +kernel
theorem dL_ties_31 : decode cL_ties 31 = .ok (.bipush 8, 2) := by decide +kernel
theorem dL_ties_33 : decode cL_ties 33 = .ok (.if_icmp .ge 7, 3) := by decide +kernel
theorem dL_ties_36 : decode cL_ties 36 = .ok (.iload_n 1, 1) := by decide +kernel
theorem dL_ties_37 : decode cL_ties 37 = .ok (.goto 5, 3) := by decide +kernel
theorem dL_ties_40 : decode cL_ties 40 = .ok (.ldc 68, 2) := by decide +kernel
theorem dL_ties_42 : decode cL_ties 42 = .ok (.if_icmp .eq 5, 3) := by decide +kernel
theorem dL_ties_45 : decode cL_ties 45 = .ok (.iconst 0, 1) := by decide +kernel
theorem dL_ties_46 : decode cL_ties 46 = .ok (.ireturn, 1) := by decide +kernel
theorem dL_ties_47 : decode cL_ties 47 = .ok (.iinc 1 1, 3) := by decide +kernel
theorem dL_ties_50 : decode cL_ties 50 = .ok (.goto (-40), 3) := by decide +kernel
theorem dL_ties_53 : decode cL_ties 53 = .ok (.iconst 0, 1) := by decide +kernel
theorem dL_ties_54 : decode cL_ties 54 = .ok (.istore_n 1, 1) := by decide +kernel
theorem dL_ties_55 : decode cL_ties 55 = .ok (.iload_n 1, 1) := by decide +kernel
theorem dL_ties_56 : decode cL_ties 56 = .ok (.bipush 8, 2) := by decide +kernel
theorem dL_ties_58 : decode cL_ties 58 = .ok (.if_icmp .ge 58, 3) := by decide +kernel
theorem dL_ties_61 : decode cL_ties 61 = .ok (.aload_n 0, 1) := by decide +kernel
theorem dL_ties_62 : decode cL_ties 62 = .ok (.iload_n 1, 1) := by decide +kernel
theorem dL_ties_63 : decode cL_ties 63 = .ok (.bipush 10, 2) := by decide +kernel
theorem dL_ties_65 : decode cL_ties 65 = .ok (.bipush 32, 2) := by decide +kernel
theorem dL_ties_67 : decode cL_ties 67 = .ok (.iconst 4, 1) := by decide +kernel
theorem dL_ties_68 : decode cL_ties 68 = .ok (.invokevirtual 23, 3) := by decide +kernel
theorem dL_ties_71 : decode cL_ties 71 = .ok (.iload_n 1, 1) := by decide +kernel
theorem dL_ties_72 : decode cL_ties 72 = .ok (.iconst 4, 1) := by decide +kernel
theorem dL_ties_73 : decode cL_ties 73 = .ok (.if_icmp .ge 7, 3) := by decide +kernel
theorem dL_ties_76 : decode cL_ties 76 = .ok (.iconst 2, 1) := by decide +kernel
theorem dL_ties_77 : decode cL_ties 77 = .ok (.goto 4, 3) := by decide +kernel
theorem dL_ties_80 : decode cL_ties 80 = .ok (.iconst 3, 1) := by decide +kernel
theorem dL_ties_81 : decode cL_ties 81 = .ok (.if_icmp .ne 27, 3) := by decide +kernel
theorem dL_ties_84 : decode cL_ties 84 = .ok (.aload_n 0, 1) := by decide +kernel
theorem dL_ties_85 : decode cL_ties 85 = .ok (.iload_n 1, 1) := by decide +kernel
theorem dL_ties_86 : decode cL_ties 86 = .ok (.iconst 3, 1) := by decide +kernel
theorem dL_ties_87 : decode cL_ties 87 = .ok (.irem, 1) := by decide +kernel
theorem dL_ties_88 : decode cL_ties 88 = .ok (.bipush 12, 2) := by decide +kernel
theorem dL_ties_90 : decode cL_ties 90 = .ok (.invokevirtual 13, 3) := by decide +kernel
theorem dL_ties_93 : decode cL_ties 93 = .ok (.iload_n 1, 1) := by decide +kernel
theorem dL_ties_94 : decode cL_ties 94 = .ok (.iconst 3, 1) := by decide +kernel
theorem dL_ties_95 : decode cL_ties 95 = .ok (.if_icmp .ge 8, 3) := by decide +kernel
theorem dL_ties_98 : decode cL_ties 98 = .ok (.bipush 32, 2) := by decide +kernel
theorem dL_ties_100 : decode cL_ties 100 = .ok (.goto 5, 3) := by decide +kernel
theorem dL_ties_103 : decode cL_ties 103 = .ok (.bipush 12, 2) := by decide +kernel
theorem dL_ties_105 : decode cL_ties 105 = .ok (.if_icmp .eq 5, 3) := by decide +kernel
theorem dL_ties_108 : decode cL_ties 108 = .ok (.iconst 0, 1) := by decide +kernel
theorem dL_ties_109 : decode cL_ties 109 = .ok (.ireturn, 1) := by decide +kernel
theorem dL_ties_110 : decode cL_ties 110 = .ok (.iinc 1 1, 3) := by decide +kernel
theorem dL_ties_113 : decode cL_ties 113 = .ok (.goto (-58), 3) := by decide +kernel
theorem dL_ties_116 : decode cL_ties 116 = .ok (.aload_n 0, 1) := by decide +kernel
theorem dL_ties_117 : decode cL_ties 117 = .ok (.bipush 6, 2) := by decide +kernel
theorem dL_ties_119 : decode cL_ties 119 = .ok (.bipush 7, 2) := by decide +kernel
theorem dL_ties_121 : decode cL_ties 121 = .ok (.bipush 8, 2) := by decide +kernel
theorem dL_ties_123 : decode cL_ties 123 = .ok (.bipush 6, 2) := by decide +kernel
theorem dL_ties_125 : decode cL_ties 125 = .ok (.invokestatic 101, 3) := by decide +kernel
theorem dL_ties_128 : decode cL_ties 128 = .ok (.ifCond .eq 225, 3) := by decide +kernel
theorem dL_ties_131 : decode cL_ties 131 = .ok (.aload_n 0, 1) := by decide +kernel
theorem dL_ties_132 : decode cL_ties 132 = .ok (.iconst 4, 1) := by decide +kernel
theorem dL_ties_133 : decode cL_ties 133 = .ok (.invokevirtual 51, 3) := by decide +kernel
theorem dL_ties_136 : decode cL_ties 136 = .ok (.iconst 5, 1) := by decide +kernel
theorem dL_ties_137 : decode cL_ties 137 = .ok (.if_icmp .ne 216, 3) := by decide +kernel
theorem dL_ties_140 : decode cL_ties 140 = .ok (.aload_n 0, 1) := by decide +kernel
theorem dL_ties_141 : decode cL_ties 141 = .ok (.iconst 5, 1) := by decide +kernel
theorem dL_ties_142 : decode cL_ties 142 = .ok (.invokevirtual 51, 3) := by decide +kernel
theorem dL_ties_145 : decode cL_ties 145 = .ok (.iconst 4, 1) := by decide +kernel
theorem dL_ties_146 : decode cL_ties 146 = .ok (.if_icmp .ne 207, 3) := by decide +kernel
theorem dL_ties_149 : decode cL_ties 149 = .ok (.aload_n 0, 1) := by decide +kernel
theorem dL_ties_150 : decode cL_ties 150 = .ok (.bipush 6, 2) := by decide +kernel
theorem dL_ties_152 : decode cL_ties 152 = .ok (.invokevirtual 51, 3) := by decide +kernel
theorem dL_ties_155 : decode cL_ties 155 = .ok (.ifCond .ne 198, 3) := by decide +kernel
theorem dL_ties_158 : decode cL_ties 158 = .ok (.aload_n 0, 1) := by decide +kernel
theorem dL_ties_159 : decode cL_ties 159 = .ok (.bipush 7, 2) := by decide +kernel
theorem dL_ties_161 : decode cL_ties 161 = .ok (.invokevirtual 51, 3) := by decide +kernel
theorem dL_ties_164 : decode cL_ties 164 = .ok (.ifCond .ne 189, 3) := by decide +kernel
theorem dL_ties_167 : decode cL_ties 167 = .ok (.aload_n 0, 1) := by decide +kernel
theorem dL_ties_168 : decode cL_ties 168 = .ok (.invokevirtual 79, 3) := by decide +kernel
theorem dL_ties_171 : decode cL_ties 171 = .ok (.sipush 248, 3) := by decide +kernel
theorem dL_ties_174 : decode cL_ties 174 = .ok (.if_icmp .ne 179, 3) := by decide +kernel
theorem dL_ties_177 : decode cL_ties 177 = .ok (.aload_n 0, 1) := by decide +kernel
theorem dL_ties_178 : decode cL_ties 178 = .ok (.iconst 4, 1) := by decide +kernel
theorem dL_ties_179 : decode cL_ties 179 = .ok (.invokevirtual 48, 3) := by decide +kernel
theorem dL_ties_182 : decode cL_ties 182 = .ok (.bipush 10, 2) := by decide +kernel
theorem dL_ties_184 : decode cL_ties 184 = .ok (.if_icmp .ne 169, 3) := by decide +kernel
theorem dL_ties_187 : decode cL_ties 187 = .ok (.aload_n 0, 1) := by decide +kernel
theorem dL_ties_188 : decode cL_ties 188 = .ok (.iconst 0, 1) := by decide +kernel
theorem dL_ties_189 : decode cL_ties 189 = .ok (.invokevirtual 57, 3) := by decide +kernel
theorem dL_ties_192 : decode cL_ties 192 = .ok (.sipush 4000, 3) := by decide +kernel
theorem dL_ties_195 : decode cL_ties 195 = .ok (.if_icmp .ne 158, 3) := by decide +kernel
theorem dL_ties_198 : decode cL_ties 198 = .ok (.aload_n 0, 1) := by decide +kernel
theorem dL_ties_199 : decode cL_ties 199 = .ok (.iconst 1, 1) := by decide +kernel
theorem dL_ties_200 : decode cL_ties 200 = .ok (.invokevirtual 57, 3) := by decide +kernel
theorem dL_ties_203 : decode cL_ties 203 = .ok (.sipush 4000, 3) := by decide +kernel
theorem dL_ties_206 : decode cL_ties 206 = .ok (.if_icmp .ne 147, 3) := by decide +kernel
theorem dL_ties_209 : decode cL_ties 209 = .ok (.aload_n 0, 1) := by decide +kernel
theorem dL_ties_210 : decode cL_ties 210 = .ok (.iconst 2, 1) := by decide +kernel
theorem dL_ties_211 : decode cL_ties 211 = .ok (.invokevirtual 57, 3) := by decide +kernel
theorem dL_ties_214 : decode cL_ties 214 = .ok (.sipush 6000, 3) := by decide +kernel
theorem dL_ties_217 : decode cL_ties 217 = .ok (.if_icmp .ne 136, 3) := by decide +kernel
theorem dL_ties_220 : decode cL_ties 220 = .ok (.aload_n 0, 1) := by decide +kernel
theorem dL_ties_221 : decode cL_ties 221 = .ok (.iconst 1, 1) := by decide +kernel
theorem dL_ties_222 : decode cL_ties 222 = .ok (.invokevirtual 20, 3) := by decide +kernel
theorem dL_ties_225 : decode cL_ties 225 = .ok (.ifCond .ne 128, 3) := by decide +kernel
theorem dL_ties_228 : decode cL_ties 228 = .ok (.aload_n 0, 1) := by decide +kernel
theorem dL_ties_229 : decode cL_ties 229 = .ok (.iconst 4, 1) := by decide +kernel
theorem dL_ties_230 : decode cL_ties 230 = .ok (.iconst 4, 1) := by decide +kernel
theorem dL_ties_231 : decode cL_ties 231 = .ok (.bipush 6, 2) := by decide +kernel
theorem dL_ties_233 : decode cL_ties 233 = .ok (.iconst 4, 1) := by decide +kernel
theorem dL_ties_234 : decode cL_ties 234 = .ok (.invokestatic 101, 3) := by decide +kernel
theorem dL_ties_237 : decode cL_ties 237 = .ok (.ifCond .eq 116, 3) := by decide +kernel
theorem dL_ties_240 : decode cL_ties 240 = .ok (.aload_n 0, 1) := by decide +kernel
theorem dL_ties_241 : decode cL_ties 241 = .ok (.bipush 7, 2) := by decide +kernel
theorem dL_ties_243 : decode cL_ties 243 = .ok (.invokevirtual 51, 3) := by decide +kernel
theorem dL_ties_246 : decode cL_ties 246 = .ok (.iconst 4, 1) := by decide +kernel
theorem dL_ties_247 : decode cL_ties 247 = .ok (.if_icmp .ne 106, 3) := by decide +kernel
theorem dL_ties_250 : decode cL_ties 250 = .ok (.aload_n 0, 1) := by decide +kernel
theorem dL_ties_251 : decode cL_ties 251 = .ok (.bipush 12, 2) := by decide +kernel
theorem dL_ties_253 : decode cL_ties 253 = .ok (.bipush 12, 2) := by decide +kernel
theorem dL_ties_255 : decode cL_ties 255 = .ok (.bipush 12, 2) := by decide +kernel
theorem dL_ties_257 : decode cL_ties 257 = .ok (.iconst 0, 1) := by decide +kernel
theorem dL_ties_258 : decode cL_ties 258 = .ok (.invokestatic 105, 3) := by decide +kernel
theorem dL_ties_261 : decode cL_ties 261 = .ok (.ifCond .eq 92, 3) := by decide +kernel
theorem dL_ties_264 : decode cL_ties 264 = .ok (.aload_n 0, 1) := by decide +kernel
theorem dL_ties_265 : decode cL_ties 265 = .ok (.iconst 0, 1) := by decide +kernel
theorem dL_ties_266 : decode cL_ties 266 = .ok (.invokevirtual 16, 3) := by decide +kernel
theorem dL_ties_269 : decode cL_ties 269 = .ok (.bipush 100, 2) := by decide +kernel
theorem dL_ties_271 : decode cL_ties 271 = .ok (.if_icmp .ne 82, 3) := by decide +kernel
theorem dL_ties_274 : decode cL_ties 274 = .ok (.aload_n 0, 1) := by decide +kernel
theorem dL_ties_275 : decode cL_ties 275 = .ok (.bipush 12, 2) := by decide +kernel
theorem dL_ties_277 : decode cL_ties 277 = .ok (.bipush 12, 2) := by decide +kernel
theorem dL_ties_279 : decode cL_ties 279 = .ok (.bipush 12, 2) := by decide +kernel
theorem dL_ties_281 : decode cL_ties 281 = .ok (.iconst 0, 1) := by decide +kernel
theorem dL_ties_282 : decode cL_ties 282 = .ok (.invokestatic 105, 3) := by decide +kernel
theorem dL_ties_285 : decode cL_ties 285 = .ok (.ifCond .eq 68, 3) := by decide +kernel
theorem dL_ties_288 : decode cL_ties 288 = .ok (.aload_n 0, 1) := by decide +kernel
theorem dL_ties_289 : decode cL_ties 289 = .ok (.iconst 2, 1) := by decide +kernel
theorem dL_ties_290 : decode cL_ties 290 = .ok (.bipush 11, 2) := by decide +kernel
theorem dL_ties_292 : decode cL_ties 292 = .ok (.invokevirtual 13, 3) := by decide +kernel
theorem dL_ties_295 : decode cL_ties 295 = .ok (.bipush 12, 2) := by decide +kernel
theorem dL_ties_297 : decode cL_ties 297 = .ok (.if_icmp .ne 56, 3) := by decide +kernel
theorem dL_ties_300 : decode cL_ties 300 = .ok (.aload_n 0, 1) := by decide +kernel
theorem dL_ties_301 : decode cL_ties 301 = .ok (.bipush 11, 2) := by decide +kernel
theorem dL_ties_303 : decode cL_ties 303 = .ok (.bipush 11, 2) := by decide +kernel
theorem dL_ties_305 : decode cL_ties 305 = .ok (.bipush 11, 2) := by decide +kernel
theorem dL_ties_307 : decode cL_ties 307 = .ok (.iconst 0, 1) := by decide +kernel
theorem dL_ties_308 : decode cL_ties 308 = .ok (.invokestatic 105, 3) := by decide +kernel
theorem dL_ties_311 : decode cL_ties 311 = .ok (.ifCond .eq 42, 3) := by decide +kernel
theorem dL_ties_314 : decode cL_ties 314 = .ok (.aload_n 0, 1) := by decide +kernel
theorem dL_ties_315 : decode cL_ties 315 = .ok (.iconst 0, 1) := by decide +kernel
theorem dL_ties_316 : decode cL_ties 316 = .ok (.invokevirtual 51, 3) := by decide +kernel
theorem dL_ties_319 : decode cL_ties 319 = .ok (.iconst 4, 1) := by decide +kernel
theorem dL_ties_320 : decode cL_ties 320 = .ok (.if_icmp .ne 33, 3) := by decide +kernel
theorem dL_ties_323 : decode cL_ties 323 = .ok (.aload_n 0, 1) := by decide +kernel
theorem dL_ties_324 : decode cL_ties 324 = .ok (.iconst 3, 1) := by decide +kernel
theorem dL_ties_325 : decode cL_ties 325 = .ok (.invokevirtual 51, 3) := by decide +kernel
theorem dL_ties_328 : decode cL_ties 328 = .ok (.iconst 4, 1) := by decide +kernel
theorem dL_ties_329 : decode cL_ties 329 = .ok (.if_icmp .ne 24, 3) := by decide +kernel
theorem dL_ties_332 : decode cL_ties 332 = .ok (.aload_n 0, 1) := by decide +kernel
theorem dL_ties_333 : decode cL_ties 333 = .ok (.bipush 6, 2) := by decide +kernel
theorem dL_ties_335 : decode cL_ties 335 = .ok (.invokevirtual 51, 3) := by decide +kernel
theorem dL_ties_338 : decode cL_ties 338 = .ok (.iconst 3, 1) := by decide +kernel
theorem dL_ties_339 : decode cL_ties 339 = .ok (.if_icmp .ne 14, 3) := by decide +kernel
theorem dL_ties_342 : decode cL_ties 342 = .ok (.aload_n 0, 1) := by decide +kernel
theorem dL_ties_343 : decode cL_ties 343 = .ok (.invokestatic 97, 3) := by decide +kernel
theorem dL_ties_346 : decode cL_ties 346 = .ok (.ifCond .eq 7, 3) := by decide +kernel
theorem dL_ties_349 : decode cL_ties 349 = .ok (.iconst 1, 1) := by decide +kernel
theorem dL_ties_350 : decode cL_ties 350 = .ok (.goto 4, 3) := by decide +kernel
theorem dL_ties_353 : decode cL_ties 353 = .ok (.iconst 0, 1) := by decide +kernel
theorem dL_ties_354 : decode cL_ties 354 = .ok (.ireturn, 1) := by decide +kernel
