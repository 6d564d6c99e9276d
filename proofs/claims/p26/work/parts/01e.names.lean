theorem gi_1 {big : List Cond} {c : Cond} (i : Nat) (h : big[i]? = some c) (hg : goodWord c = true) : GoodIn big [c] := goodIn_sub (fun w hw => by
  rcases List.mem_singleton.mp hw with rfl
  exact List.mem_of_getElem? h) (by simp only [List.all_cons, hg, List.all_nil, Bool.and_self])
theorem gi_c {big a : List Cond} {c : Cond} (hc : GoodIn big [c]) (ha : GoodIn big a) : GoodIn big (c :: a) := fun w h => (List.mem_cons.mp h).elim (fun e => hc w (by rw [e]; exact List.mem_singleton.mpr rfl)) (ha w)
set_option maxRecDepth 20000 in
theorem ggL_act_X0_point : GoodIn wsL_act wsX0_point := goodIn_ca (goodIn_ca (goodIn_r _ [11, 12, 13, 14, 15, 16, 17, 18, 19, 10, 20, 21, 22, 23, 24, 25, 210, 211, 212, 213, 214, 215, 216, 217, 218, 219, 220, 221, 222, 223, 224, 225] (by decide +kernel) (by decide +kernel)) (goodIn_sub (fun _ h => List.mem_cons_of_mem _ (List.mem_append_left _ (List.mem_append_left _ (List.mem_append_right _ h)))) (by decide +kernel))) (goodIn_sub (fun _ h => List.mem_cons_of_mem _ (List.mem_append_left _ (List.mem_append_right _ h))) (by decide +kernel))
set_option maxRecDepth 20000 in
theorem gL_act_X0_point : GoodIn wsL_act (wsV RL 7 RX0 yX0_point wsX0_point) := goodIn_app (goodIn_of _ (by decide +kernel)) ggL_act_X0_point
set_option maxRecDepth 20000 in
theorem ggL_act_X0_fuse : GoodIn wsL_act wsX0_fuse := goodIn_ca (goodIn_r _ [29, 30, 18, 19, 10, 20, 21, 22, 23, 24, 25, 210, 211, 212, 213, 214, 215, 216, 217, 218, 219, 220, 221, 222, 223, 224, 225] (by decide +kernel) (by decide +kernel)) (goodIn_sub (fun _ h => List.mem_cons_of_mem _ (List.mem_append_left _ (List.mem_append_right _ h))) (by decide +kernel))
set_option maxRecDepth 20000 in
theorem gL_act_X0_fuse : GoodIn wsL_act (wsV RL 13 RX0 yX0_fuse wsX0_fuse) := goodIn_app (goodIn_of _ (by decide +kernel)) ggL_act_X0_fuse
set_option maxRecDepth 20000 in
theorem ggL_act_X0_balance : GoodIn wsL_act wsX0_balance := goodIn_ca (goodIn_r _ [34, 35, 23, 24, 10, 25, 21, 22, 210, 211, 212, 213, 214, 215, 216, 217, 218, 219, 220, 221, 222, 223, 224, 225] (by decide +kernel) (by decide +kernel)) (goodIn_sub (fun _ h => List.mem_cons_of_mem _ (List.mem_append_left _ (List.mem_append_right _ h))) (by decide +kernel))
set_option maxRecDepth 20000 in
theorem gL_act_X0_balance : GoodIn wsL_act (wsV RL 16 RX0 yX0_balance wsX0_balance) := goodIn_app (goodIn_of _ (by decide +kernel)) ggL_act_X0_balance
set_option maxRecDepth 20000 in
theorem ggL_act_X0_rule : GoodIn wsL_act wsX0_rule := goodIn_ca (goodIn_r _ [39, 40, 23, 24, 10, 25, 21, 22, 210, 211, 212, 213, 214, 215, 216, 217, 218, 219, 220, 221, 222, 223, 224, 225] (by decide +kernel) (by decide +kernel)) (goodIn_sub (fun _ h => List.mem_cons_of_mem _ (List.mem_append_left _ (List.mem_append_right _ h))) (by decide +kernel))
set_option maxRecDepth 20000 in
theorem gL_act_X0_rule : GoodIn wsL_act (wsV RL 20 RX0 yX0_rule wsX0_rule) := goodIn_app (goodIn_of _ (by decide +kernel)) ggL_act_X0_rule
set_option maxRecDepth 20000 in
theorem ggL_act_X0_plugIn : GoodIn wsL_act wsX0_plugIn := goodIn_ca (goodIn_ca (goodIn_ca (goodIn_r _ [44, 12, 13, 17, 45, 46, 47, 48, 49, 50, 10, 51, 52, 53, 14, 23, 24, 25, 21, 22, 54, 55, 56, 57, 58, 59, 60, 61, 62, 63, 64, 65, 16, 66, 67, 68, 69, 70, 71, 72, 73, 15, 74, 75, 76, 77, 78, 79, 80, 81, 82, 83, 210, 211, 212, 213, 214, 215, 216, 217, 218, 219, 220, 221, 222, 223, 224, 225] (by decide +kernel) (by decide +kernel)) (goodIn_sub (fun _ h => List.mem_cons_of_mem _ (List.mem_append_left _ (List.mem_append_left _ (List.mem_append_right _ h)))) (by decide +kernel))) (goodIn_sub (fun _ h => List.mem_cons_of_mem _ (List.mem_append_right _ h)) (by decide +kernel))) (goodIn_sub (fun _ h => List.mem_cons_of_mem _ (List.mem_append_left _ (List.mem_append_right _ h))) (by decide +kernel))
set_option maxRecDepth 20000 in
theorem gL_act_X0_plugIn : GoodIn wsL_act (wsV RL 23 RX0 yX0_plugIn wsX0_plugIn) := goodIn_app (goodIn_of _ (by decide +kernel)) ggL_act_X0_plugIn
set_option maxRecDepth 20000 in
theorem ggL_act_X0_takeOut : GoodIn wsL_act wsX0_takeOut := goodIn_ca (goodIn_ca (goodIn_r _ [87, 17, 88, 48, 49, 50, 10, 51, 52, 53, 14, 89, 90, 91, 92, 12, 13, 54, 55, 56, 57, 210, 211, 212, 213, 214, 215, 216, 217, 218, 219, 220, 221, 222, 223, 224, 225] (by decide +kernel) (by decide +kernel)) (goodIn_sub (fun _ h => List.mem_cons_of_mem _ (List.mem_append_right _ h)) (by decide +kernel))) (goodIn_sub (fun _ h => List.mem_cons_of_mem _ (List.mem_append_left _ (List.mem_append_left _ (List.mem_append_right _ h)))) (by decide +kernel))
set_option maxRecDepth 20000 in
theorem gL_act_X0_takeOut : GoodIn wsL_act (wsV RL 27 RX0 yX0_takeOut wsX0_takeOut) := goodIn_app (goodIn_of _ (by decide +kernel)) ggL_act_X0_takeOut
set_option maxRecDepth 20000 in
theorem ggL_act_X0_appetite : GoodIn wsL_act wsX0_appetite := goodIn_ca (goodIn_ca (goodIn_ca (goodIn_r _ [96, 45, 48, 49, 50, 10, 51, 52, 53, 14, 23, 24, 25, 21, 22, 89, 90, 91, 92, 12, 13, 54, 55, 56, 57, 17, 210, 211, 212, 213, 214, 215, 216, 217, 218, 219, 220, 221, 222, 223, 224, 225] (by decide +kernel) (by decide +kernel)) (goodIn_sub (fun _ h => List.mem_cons_of_mem _ (List.mem_append_right _ h)) (by decide +kernel))) (goodIn_sub (fun _ h => List.mem_cons_of_mem _ (List.mem_append_left _ (List.mem_append_right _ h))) (by decide +kernel))) (goodIn_sub (fun _ h => List.mem_cons_of_mem _ (List.mem_append_left _ (List.mem_append_left _ (List.mem_append_right _ h)))) (by decide +kernel))
set_option maxRecDepth 20000 in
theorem gL_act_X0_appetite : GoodIn wsL_act (wsV RL 30 RX0 yX0_appetite wsX0_appetite) := goodIn_app (goodIn_of _ (by decide +kernel)) ggL_act_X0_appetite
set_option maxRecDepth 20000 in
theorem ggL_act_X0_stay : GoodIn wsL_act wsX0_stay := goodIn_ca (goodIn_ca (goodIn_ca (goodIn_r _ [100, 46, 47, 78, 79, 68, 80, 48, 49, 50, 10, 51, 52, 53, 14, 23, 24, 25, 21, 22, 89, 90, 91, 92, 12, 13, 54, 55, 56, 57, 17, 74, 75, 76, 77, 210, 211, 212, 213, 214, 215, 216, 217, 218, 219, 220, 221, 222, 223, 224, 225] (by decide +kernel) (by decide +kernel)) (goodIn_sub (fun _ h => List.mem_cons_of_mem _ (List.mem_append_right _ h)) (by decide +kernel))) (goodIn_sub (fun _ h => List.mem_cons_of_mem _ (List.mem_append_left _ (List.mem_append_right _ h))) (by decide +kernel))) (goodIn_sub (fun _ h => List.mem_cons_of_mem _ (List.mem_append_left _ (List.mem_append_left _ (List.mem_append_right _ h)))) (by decide +kernel))
set_option maxRecDepth 20000 in
theorem gL_act_X0_stay : GoodIn wsL_act (wsV RL 33 RX0 yX0_stay wsX0_stay) := goodIn_app (goodIn_of _ (by decide +kernel)) ggL_act_X0_stay
set_option maxRecDepth 20000 in
theorem ggL_act_X0_step : GoodIn wsL_act wsX0_step := goodIn_ca (goodIn_r _ [104, 105, 47, 23, 24, 10, 25, 21, 22, 106, 107, 108, 109, 40, 110, 111, 112, 113, 14, 114, 115, 116, 117, 118, 119, 120, 17, 66, 67, 68, 69, 121, 122, 123, 124, 46, 70, 71, 72, 73, 15, 81, 82, 83, 62, 63, 64, 65, 16, 45, 125, 126, 127, 128, 129, 130, 131, 132, 133, 134, 135, 136, 30, 137, 138, 139, 140, 141, 142, 143, 144, 145, 146, 147, 148, 149, 150, 151, 152, 153, 58, 59, 60, 61, 74, 75, 76, 77, 78, 79, 80, 154, 155, 156, 157, 35, 158, 159, 160, 161, 162, 163, 164, 165, 166, 167, 168, 169, 170, 171, 172, 173, 210, 211, 212, 213, 214, 215, 216, 217, 218, 219, 220, 221, 222, 223, 224, 225] (by decide +kernel) (by decide +kernel)) (goodIn_sub (fun _ h => List.mem_cons_of_mem _ (List.mem_append_left _ (List.mem_append_right _ h))) (by decide +kernel))
set_option maxRecDepth 20000 in
theorem gL_act_X0_step : GoodIn wsL_act (wsV RL 36 RX0 yX0_step wsX0_step) := goodIn_app (goodIn_of _ (by decide +kernel)) ggL_act_X0_step
set_option maxRecDepth 20000 in
theorem ggL_act_X0_need : GoodIn wsL_act wsX0_need := goodIn_ca (goodIn_r _ [177, 17, 48, 49, 50, 10, 51, 52, 53, 14, 210, 211, 212, 213, 214, 215, 216, 217, 218, 219, 220, 221, 222, 223, 224, 225] (by decide +kernel) (by decide +kernel)) (goodIn_sub (fun _ h => List.mem_cons_of_mem _ (List.mem_append_right _ h)) (by decide +kernel))
set_option maxRecDepth 20000 in
theorem gL_act_X0_need : GoodIn wsL_act (wsV RL 39 RX0 yX0_need wsX0_need) := goodIn_app (goodIn_of _ (by decide +kernel)) ggL_act_X0_need
set_option maxRecDepth 20000 in
theorem ggL_act_X0_left : GoodIn wsL_act wsX0_left := goodIn_ca (goodIn_r _ [181, 48, 49, 50, 10, 51, 52, 53, 14, 54, 55, 56, 57, 17, 74, 75, 76, 77, 46, 47, 78, 79, 68, 80, 210, 211, 212, 213, 214, 215, 216, 217, 218, 219, 220, 221, 222, 223, 224, 225] (by decide +kernel) (by decide +kernel)) (goodIn_sub (fun _ h => List.mem_cons_of_mem _ (List.mem_append_right _ h)) (by decide +kernel))
set_option maxRecDepth 20000 in
theorem gL_act_X0_left : GoodIn wsL_act (wsV RL 42 RX0 yX0_left wsX0_left) := goodIn_app (goodIn_of _ (by decide +kernel)) ggL_act_X0_left
set_option maxRecDepth 20000 in
theorem ggL_act_X0_laxity : GoodIn wsL_act wsX0_laxity := goodIn_ca (goodIn_ca (goodIn_r _ [185, 48, 49, 50, 10, 51, 52, 53, 14, 89, 90, 91, 92, 12, 13, 54, 55, 56, 57, 17, 58, 59, 60, 61, 62, 63, 64, 65, 16, 45, 66, 67, 68, 69, 70, 71, 72, 73, 15, 74, 75, 76, 77, 46, 47, 78, 79, 80, 81, 82, 83, 210, 211, 212, 213, 214, 215, 216, 217, 218, 219, 220, 221, 222, 223, 224, 225] (by decide +kernel) (by decide +kernel)) (goodIn_sub (fun _ h => List.mem_cons_of_mem _ (List.mem_append_right _ h)) (by decide +kernel))) (goodIn_sub (fun _ h => List.mem_cons_of_mem _ (List.mem_append_left _ (List.mem_append_left _ (List.mem_append_right _ h)))) (by decide +kernel))
set_option maxRecDepth 20000 in
theorem gL_act_X0_laxity : GoodIn wsL_act (wsV RL 45 RX0 yX0_laxity wsX0_laxity) := goodIn_app (goodIn_of _ (by decide +kernel)) ggL_act_X0_laxity
set_option maxRecDepth 20000 in
theorem ggL_act_X0_reach : GoodIn wsL_act wsX0_reach := goodIn_ca (goodIn_r _ [189, 48, 49, 50, 10, 51, 52, 53, 14, 117, 118, 119, 120, 17, 66, 67, 68, 69, 121, 122, 123, 124, 46, 47, 70, 71, 72, 73, 15, 81, 82, 83, 62, 63, 64, 65, 16, 45, 210, 211, 212, 213, 214, 215, 216, 217, 218, 219, 220, 221, 222, 223, 224, 225] (by decide +kernel) (by decide +kernel)) (goodIn_sub (fun _ h => List.mem_cons_of_mem _ (List.mem_append_right _ h)) (by decide +kernel))
set_option maxRecDepth 20000 in
theorem gL_act_X0_reach : GoodIn wsL_act (wsV RL 48 RX0 yX0_reach wsX0_reach) := goodIn_app (goodIn_of _ (by decide +kernel)) ggL_act_X0_reach
set_option maxRecDepth 20000 in
theorem ggL_act_X0_current : GoodIn wsL_act wsX0_current := goodIn_ca (goodIn_r _ [193, 114, 48, 49, 50, 10, 51, 52, 53, 14, 106, 107, 108, 109, 40, 110, 111, 112, 113, 115, 116, 117, 118, 119, 120, 17, 66, 67, 68, 69, 121, 122, 123, 124, 46, 47, 70, 71, 72, 73, 15, 81, 82, 83, 62, 63, 64, 65, 16, 45, 125, 126, 127, 128, 129, 130, 131, 132, 133, 134, 135, 136, 30, 137, 138, 139, 140, 141, 142, 143, 144, 145, 146, 147, 148, 149, 150, 151, 152, 153, 58, 59, 60, 61, 74, 75, 76, 77, 78, 79, 80, 154, 155, 156, 157, 35, 158, 159, 160, 161, 162, 163, 164, 165, 166, 167, 168, 169, 210, 211, 212, 213, 214, 215, 216, 217, 218, 219, 220, 221, 222, 223, 224, 225] (by decide +kernel) (by decide +kernel)) (goodIn_sub (fun _ h => List.mem_cons_of_mem _ (List.mem_append_right _ h)) (by decide +kernel))
set_option maxRecDepth 20000 in
theorem gL_act_X0_current : GoodIn wsL_act (wsV RL 51 RX0 yX0_current wsX0_current) := goodIn_app (goodIn_of _ (by decide +kernel)) ggL_act_X0_current
set_option maxRecDepth 20000 in
theorem ggL_act_X0_load : GoodIn wsL_act wsX0_load := goodIn_ca (goodIn_r _ [197, 116, 18, 19, 10, 20, 21, 22, 106, 107, 108, 109, 40, 110, 111, 112, 113, 14, 114, 115, 117, 118, 119, 120, 17, 66, 67, 68, 69, 121, 122, 123, 124, 46, 47, 70, 71, 72, 73, 15, 81, 82, 83, 62, 63, 64, 65, 16, 45, 125, 126, 127, 128, 129, 130, 131, 132, 133, 134, 135, 136, 30, 137, 138, 139, 140, 141, 142, 143, 144, 145, 146, 147, 148, 149, 150, 151, 152, 153, 58, 59, 60, 61, 74, 75, 76, 77, 78, 79, 80, 154, 155, 156, 157, 35, 158, 159, 160, 161, 162, 163, 164, 165, 166, 167, 168, 169, 210, 211, 212, 213, 214, 215, 216, 217, 218, 219, 220, 221, 222, 223, 224, 225] (by decide +kernel) (by decide +kernel)) (goodIn_sub (fun _ h => List.mem_cons_of_mem _ (List.mem_append_left _ (List.mem_append_right _ h))) (by decide +kernel))
set_option maxRecDepth 20000 in
theorem gL_act_X0_load : GoodIn wsL_act (wsV RL 54 RX0 yX0_load wsX0_load) := goodIn_app (goodIn_of _ (by decide +kernel)) ggL_act_X0_load
set_option maxRecDepth 20000 in
theorem ggL_act_X0_fairLevel : GoodIn wsL_act wsX0_fairLevel := goodIn_ca (goodIn_r _ [201, 30, 18, 19, 10, 20, 21, 22, 106, 107, 108, 109, 40, 110, 111, 112, 113, 14, 114, 115, 116, 117, 118, 119, 120, 17, 66, 67, 68, 69, 121, 122, 123, 124, 46, 47, 70, 71, 72, 73, 15, 81, 82, 83, 62, 63, 64, 65, 16, 45, 125, 126, 127, 128, 129, 130, 131, 132, 133, 134, 135, 136, 137, 138, 139, 140, 141, 142, 143, 144, 145, 146, 147, 148, 149, 150, 151, 152, 153, 58, 59, 60, 61, 74, 75, 76, 77, 78, 79, 80, 154, 155, 156, 157, 35, 158, 159, 160, 161, 162, 163, 164, 165, 166, 167, 168, 169, 202, 203, 204, 205, 206, 207, 208, 209, 210, 211, 212, 213, 214, 215, 216, 217, 218, 219, 220, 221, 222, 223, 224, 225] (by decide +kernel) (by decide +kernel)) (goodIn_sub (fun _ h => List.mem_cons_of_mem _ (List.mem_append_left _ (List.mem_append_right _ h))) (by decide +kernel))
set_option maxRecDepth 20000 in
theorem gL_act_X0_fairLevel : GoodIn wsL_act (wsV RL 57 RX0 yX0_fairLevel wsX0_fairLevel) := goodIn_app (goodIn_of _ (by decide +kernel)) ggL_act_X0_fairLevel
theorem dL_act_0 : decode cL_act 0 = .ok (.iload_n 1, 1) := by decide +kernel
theorem dL_act_1 : decode cL_act 1 = .ok (.ifCond .ne 12, 3) := by decide +kernel
theorem dL_act_4 : decode cL_act 4 = .ok (.aload_n 0, 1) := by decide +kernel
theorem dL_act_5 : decode cL_act 5 = .ok (.iload_n 2, 1) := by decide +kernel
theorem dL_act_6 : decode cL_act 6 = .ok (.iload_n 3, 1) := by decide +kernel
theorem dL_act_7 : decode cL_act 7 = .ok (.invokevirtual 7, 3) := by decide +kernel
theorem dL_act_10 : decode cL_act 10 = .ok (.goto 207, 3) := by decide +kernel
theorem dL_act_13 : decode cL_act 13 = .ok (.iload_n 1, 1) := by decide +kernel
theorem dL_act_14 : decode cL_act 14 = .ok (.iconst 1, 1) := by decide +kernel
theorem dL_act_15 : decode cL_act 15 = .ok (.if_icmp .ne 12, 3) := by decide +kernel
theorem dL_act_18 : decode cL_act 18 = .ok (.aload_n 0, 1) := by decide +kernel
theorem dL_act_19 : decode cL_act 19 = .ok (.iload_n 2, 1) := by decide +kernel
theorem dL_act_20 : decode cL_act 20 = .ok (.iload_n 3, 1) := by decide +kernel
theorem dL_act_21 : decode cL_act 21 = .ok (.invokevirtual 13, 3) := by decide +kernel
theorem dL_act_24 : decode cL_act 24 = .ok (.goto 193, 3) := by decide +kernel
theorem dL_act_27 : decode cL_act 27 = .ok (.iload_n 1, 1) := by decide +kernel
theorem dL_act_28 : decode cL_act 28 = .ok (.iconst 2, 1) := by decide +kernel
theorem dL_act_29 : decode cL_act 29 = .ok (.if_icmp .ne 11, 3) := by decide +kernel
theorem dL_act_32 : decode cL_act 32 = .ok (.aload_n 0, 1) := by decide +kernel
theorem dL_act_33 : decode cL_act 33 = .ok (.iload_n 2, 1) := by decide +kernel
theorem dL_act_34 : decode cL_act 34 = .ok (.invokevirtual 16, 3) := by decide +kernel
theorem dL_act_37 : decode cL_act 37 = .ok (.goto 180, 3) := by decide +kernel
theorem dL_act_40 : decode cL_act 40 = .ok (.iload_n 1, 1) := by decide +kernel
theorem dL_act_41 : decode cL_act 41 = .ok (.iconst 3, 1) := by decide +kernel
theorem dL_act_42 : decode cL_act 42 = .ok (.if_icmp .ne 11, 3) := by decide +kernel
theorem dL_act_45 : decode cL_act 45 = .ok (.aload_n 0, 1) := by decide +kernel
theorem dL_act_46 : decode cL_act 46 = .ok (.iload_n 2, 1) := by decide +kernel
theorem dL_act_47 : decode cL_act 47 = .ok (.invokevirtual 20, 3) := by decide +kernel
theorem dL_act_50 : decode cL_act 50 = .ok (.goto 167, 3) := by decide +kernel
theorem dL_act_53 : decode cL_act 53 = .ok (.iload_n 1, 1) := by decide +kernel
theorem dL_act_54 : decode cL_act 54 = .ok (.iconst 4, 1) := by decide +kernel
theorem dL_act_55 : decode cL_act 55 = .ok (.if_icmp .ne 16, 3) := by decide +kernel
theorem dL_act_58 : decode cL_act 58 = .ok (.aload_n 0, 1) := by decide +kernel
theorem dL_act_59 : decode cL_act 59 = .ok (.iload_n 2, 1) := by decide +kernel
theorem dL_act_60 : decode cL_act 60 = .ok (.iload_n 3, 1) := by decide +kernel
theorem dL_act_61 : decode cL_act 61 = .ok (.iload 4, 2) := by decide +kernel
theorem dL_act_63 : decode cL_act 63 = .ok (.iload 5, 2) := by decide +kernel
theorem dL_act_65 : decode cL_act 65 = .ok (.invokevirtual 23, 3) := by decide +kernel
theorem dL_act_68 : decode cL_act 68 = .ok (.goto 149, 3) := by decide +kernel
theorem dL_act_71 : decode cL_act 71 = .ok (.iload_n 1, 1) := by decide +kernel
theorem dL_act_72 : decode cL_act 72 = .ok (.iconst 5, 1) := by decide +kernel
theorem dL_act_73 : decode cL_act 73 = .ok (.if_icmp .ne 11, 3) := by decide +kernel
theorem dL_act_76 : decode cL_act 76 = .ok (.aload_n 0, 1) := by decide +kernel
theorem dL_act_77 : decode cL_act 77 = .ok (.iload_n 2, 1) := by decide +kernel
theorem dL_act_78 : decode cL_act 78 = .ok (.invokevirtual 27, 3) := by decide +kernel
theorem dL_act_81 : decode cL_act 81 = .ok (.goto 136, 3) := by decide +kernel
theorem dL_act_84 : decode cL_act 84 = .ok (.iload_n 1, 1) := by decide +kernel
theorem dL_act_85 : decode cL_act 85 = .ok (.bipush 6, 2) := by decide +kernel
theorem dL_act_87 : decode cL_act 87 = .ok (.if_icmp .ne 12, 3) := by decide +kernel
theorem dL_act_90 : decode cL_act 90 = .ok (.aload_n 0, 1) := by decide +kernel
theorem dL_act_91 : decode cL_act 91 = .ok (.iload_n 2, 1) := by decide +kernel
theorem dL_act_92 : decode cL_act 92 = .ok (.iload_n 3, 1) := by decide +kernel
theorem dL_act_93 : decode cL_act 93 = .ok (.invokevirtual 30, 3) := by decide +kernel
theorem dL_act_96 : decode cL_act 96 = .ok (.goto 121, 3) := by decide +kernel
theorem dL_act_99 : decode cL_act 99 = .ok (.iload_n 1, 1) := by decide +kernel
theorem dL_act_100 : decode cL_act 100 = .ok (.bipush 7, 2) := by decide +kernel
theorem dL_act_102 : decode cL_act 102 = .ok (.if_icmp .ne 12, 3) := by decide +kernel
theorem dL_act_105 : decode cL_act 105 = .ok (.aload_n 0, 1) := by decide +kernel
theorem dL_act_106 : decode cL_act 106 = .ok (.iload_n 2, 1) := by decide +kernel
theorem dL_act_107 : decode cL_act 107 = .ok (.iload_n 3, 1) := by decide +kernel
theorem dL_act_108 : decode cL_act 108 = .ok (.invokevirtual 33, 3) := by decide +kernel
theorem dL_act_111 : decode cL_act 111 = .ok (.goto 106, 3) := by decide +kernel
theorem dL_act_114 : decode cL_act 114 = .ok (.iload_n 1, 1) := by decide +kernel
theorem dL_act_115 : decode cL_act 115 = .ok (.bipush 8, 2) := by decide +kernel
theorem dL_act_117 : decode cL_act 117 = .ok (.if_icmp .ne 11, 3) := by decide +kernel
theorem dL_act_120 : decode cL_act 120 = .ok (.aload_n 0, 1) := by decide +kernel
theorem dL_act_121 : decode cL_act 121 = .ok (.iload_n 2, 1) := by decide +kernel
theorem dL_act_122 : decode cL_act 122 = .ok (.invokevirtual 36, 3) := by decide +kernel
theorem dL_act_125 : decode cL_act 125 = .ok (.goto 92, 3) := by decide +kernel
theorem dL_act_128 : decode cL_act 128 = .ok (.iload_n 1, 1) := by decide +kernel
theorem dL_act_129 : decode cL_act 129 = .ok (.bipush 9, 2) := by decide +kernel
theorem dL_act_131 : decode cL_act 131 = .ok (.if_icmp .ne 11, 3) := by decide +kernel
theorem dL_act_134 : decode cL_act 134 = .ok (.aload_n 0, 1) := by decide +kernel
theorem dL_act_135 : decode cL_act 135 = .ok (.iload_n 2, 1) := by decide +kernel
theorem dL_act_136 : decode cL_act 136 = .ok (.invokevirtual 39, 3) := by decide +kernel
theorem dL_act_139 : decode cL_act 139 = .ok (.goto 78, 3) := by decide +kernel
theorem dL_act_142 : decode cL_act 142 = .ok (.iload_n 1, 1) := by decide +kernel
theorem dL_act_143 : decode cL_act 143 = .ok (.bipush 10, 2) := by decide +kernel
theorem dL_act_145 : decode cL_act 145 = .ok (.if_icmp .ne 11, 3) := by decide +kernel
theorem dL_act_148 : decode cL_act 148 = .ok (.aload_n 0, 1) := by decide +kernel
theorem dL_act_149 : decode cL_act 149 = .ok (.iload_n 2, 1) := by decide +kernel
theorem dL_act_150 : decode cL_act 150 = .ok (.invokevirtual 42, 3) := by decide +kernel
theorem dL_act_153 : decode cL_act 153 = .ok (.goto 64, 3) := by decide +kernel
theorem dL_act_156 : decode cL_act 156 = .ok (.iload_n 1, 1) := by decide +kernel
theorem dL_act_157 : decode cL_act 157 = .ok (.bipush 11, 2) := by decide +kernel
theorem dL_act_159 : decode cL_act 159 = .ok (.if_icmp .ne 11, 3) := by decide +kernel
theorem dL_act_162 : decode cL_act 162 = .ok (.aload_n 0, 1) := by decide +kernel
theorem dL_act_163 : decode cL_act 163 = .ok (.iload_n 2, 1) := by decide +kernel
theorem dL_act_164 : decode cL_act 164 = .ok (.invokevirtual 45, 3) := by decide +kernel
theorem dL_act_167 : decode cL_act 167 = .ok (.goto 50, 3) := by decide +kernel
theorem dL_act_170 : decode cL_act 170 = .ok (.iload_n 1, 1) := by decide +kernel
theorem dL_act_171 : decode cL_act 171 = .ok (.bipush 12, 2) := by decide +kernel
theorem dL_act_173 : decode cL_act 173 = .ok (.if_icmp .ne 11, 3) := by decide +kernel
theorem dL_act_176 : decode cL_act 176 = .ok (.aload_n 0, 1) := by decide +kernel
theorem dL_act_177 : decode cL_act 177 = .ok (.iload_n 2, 1) := by decide +kernel
theorem dL_act_178 : decode cL_act 178 = .ok (.invokevirtual 48, 3) := by decide +kernel
theorem dL_act_181 : decode cL_act 181 = .ok (.goto 36, 3) := by decide +kernel
theorem dL_act_184 : decode cL_act 184 = .ok (.iload_n 1, 1) := by decide +kernel
theorem dL_act_185 : decode cL_act 185 = .ok (.bipush 13, 2) := by decide +kernel
theorem dL_act_187 : decode cL_act 187 = .ok (.if_icmp .ne 11, 3) := by decide +kernel
theorem dL_act_190 : decode cL_act 190 = .ok (.aload_n 0, 1) := by decide +kernel
theorem dL_act_191 : decode cL_act 191 = .ok (.iload_n 2, 1) := by decide +kernel
theorem dL_act_192 : decode cL_act 192 = .ok (.invokevirtual 51, 3) := by decide +kernel
theorem dL_act_195 : decode cL_act 195 = .ok (.goto 22, 3) := by decide +kernel
theorem dL_act_198 : decode cL_act 198 = .ok (.iload_n 1, 1) := by decide +kernel
theorem dL_act_199 : decode cL_act 199 = .ok (.bipush 14, 2) := by decide +kernel
theorem dL_act_201 : decode cL_act 201 = .ok (.if_icmp .ne 11, 3) := by decide +kernel
theorem dL_act_204 : decode cL_act 204 = .ok (.aload_n 0, 1) := by decide +kernel
theorem dL_act_205 : decode cL_act 205 = .ok (.iload_n 2, 1) := by decide +kernel
theorem dL_act_206 : decode cL_act 206 = .ok (.invokevirtual 54, 3) := by decide +kernel
theorem dL_act_209 : decode cL_act 209 = .ok (.goto 8, 3) := by decide +kernel
theorem dL_act_212 : decode cL_act 212 = .ok (.aload_n 0, 1) := by decide +kernel
theorem dL_act_213 : decode cL_act 213 = .ok (.iload_n 2, 1) := by decide +kernel
theorem dL_act_214 : decode cL_act 214 = .ok (.invokevirtual 57, 3) := by decide +kernel
theorem dL_act_217 : decode cL_act 217 = .ok (.ireturn, 1) := by decide +kernel
theorem dL_act_218 : decode cL_act 218 = .ok (.astore 6, 2) := by decide +kernel
theorem dL_act_220 : decode cL_act 220 = .ok (.ldc 62, 2) := by decide +kernel
theorem dL_act_222 : decode cL_act 222 = .ok (.ireturn, 1) := by decide +kernel
theorem dL_act_223 : decode cL_act 223 = .ok (.astore 6, 2) := by decide +kernel
theorem dL_act_225 : decode cL_act 225 = .ok (.ldc 65, 2) := by decide +kernel
theorem dL_act_227 : decode cL_act 227 = .ok (.ireturn, 1) := by decide +kernel
theorem dL_act_228 : decode cL_act 228 = .ok (.astore 6, 2) := by decide +kernel
theorem dL_act_230 : decode cL_act 230 = .ok (.ldc 68, 2) := by decide +kernel
theorem dL_act_232 : decode cL_act 232 = .ok (.ireturn, 1) := by decide +kernel
set_option maxRecDepth 20000 in
theorem ggL_refuses_X0_points : GoodIn wsL_refuses wsX0_points := goodIn_r _ [8, 9, 231, 232, 233, 234, 235, 236, 237, 238, 239, 240, 241, 242, 243, 244, 245, 246] (by decide +kernel) (by decide +kernel)
set_option maxRecDepth 20000 in
theorem gL_refuses_X0_points : GoodIn wsL_refuses (wsV RL 69 RX0 yX0_points wsX0_points) := goodIn_app (goodIn_of _ (by decide +kernel)) ggL_refuses_X0_points
set_option maxRecDepth 20000 in
theorem ggL_refuses_X0_time : GoodIn wsL_refuses wsX0_time := goodIn_r _ [13, 14, 231, 232, 233, 234, 235, 236, 237, 238, 239, 240, 241, 242, 243, 244, 245, 246] (by decide +kernel) (by decide +kernel)
set_option maxRecDepth 20000 in
theorem gL_refuses_X0_time : GoodIn wsL_refuses (wsV RL 73 RX0 yX0_time wsX0_time) := goodIn_app (goodIn_of _ (by decide +kernel)) ggL_refuses_X0_time
set_option maxRecDepth 20000 in
theorem ggL_refuses_X0_taken : GoodIn wsL_refuses wsX0_taken := goodIn_r _ [18, 19, 231, 232, 233, 234, 235, 236, 237, 238, 239, 240, 241, 242, 243, 244, 245, 246] (by decide +kernel) (by decide +kernel)
set_option maxRecDepth 20000 in
theorem gL_refuses_X0_taken : GoodIn wsL_refuses (wsV RL 76 RX0 yX0_taken wsX0_taken) := goodIn_app (goodIn_of _ (by decide +kernel)) ggL_refuses_X0_taken
set_option maxRecDepth 20000 in
theorem ggL_refuses_X0_held : GoodIn wsL_refuses wsX0_held := goodIn_r _ [23, 9, 24, 25, 26, 27, 28, 7, 29, 30, 31, 32, 33, 34, 35, 36, 37, 38, 39, 40, 41, 42, 43, 44, 45, 46, 47, 48, 49, 14, 50, 51, 52, 53, 54, 55, 56, 57, 58, 59, 60, 61, 62, 63, 64, 65, 66, 67, 68, 69, 70, 71, 72, 73, 74, 75, 76, 77, 78, 79, 80, 81, 82, 83, 84, 85, 86, 87, 88, 89, 90, 91, 92, 93, 94, 95, 96, 97, 98, 99, 100, 101, 102, 103, 104, 105, 106, 107, 108, 109, 110, 111, 112, 113, 114, 115, 116, 117, 118, 119, 120, 121, 231, 232, 233, 234, 235, 236, 237, 238, 239, 240, 241, 242, 243, 244, 245, 246] (by decide +kernel) (by decide +kernel)
set_option maxRecDepth 20000 in
theorem gL_refuses_X0_held : GoodIn wsL_refuses (wsV RL 79 RX0 yX0_held wsX0_held) := goodIn_app (goodIn_of _ (by decide +kernel)) ggL_refuses_X0_held
set_option maxRecDepth 20000 in
theorem ggL_refuses_L_act : GoodIn wsL_refuses wsL_act := goodIn_ca (goodIn_ca (goodIn_ca (goodIn_r _ [125, 126, 127, 128, 3, 2, 129, 130, 131, 132, 7, 133, 134, 135, 9, 54, 62, 40, 136, 137, 138, 139, 140, 141, 142, 143, 144, 145, 146, 147, 76, 148, 149, 150, 151, 109, 152, 153, 154, 155, 30, 156, 157, 158, 159, 63, 49, 14, 160, 161, 162, 163, 164, 165, 166, 167, 168, 169, 94, 95, 96, 97, 58, 59, 60, 61, 41, 42, 43, 44, 50, 51, 52, 53, 98, 99, 100, 101, 102, 103, 104, 55, 56, 57, 170, 171, 172, 173, 174, 175, 176, 177, 178, 179, 180, 181, 182, 183, 184, 185, 186, 187, 188, 189, 190, 19, 26, 27, 28, 29, 31, 32, 33, 34, 24, 25, 35, 36, 37, 38, 39, 45, 46, 47, 48, 64, 65, 66, 67, 68, 69, 70, 71, 72, 73, 74, 75, 77, 78, 79, 80, 81, 82, 83, 84, 85, 86, 87, 88, 89, 90, 91, 92, 93, 105, 106, 107, 108, 110, 111, 112, 113, 114, 115, 116, 117, 118, 119, 120, 121, 191, 192, 193, 194, 195, 196, 197, 198, 199, 200, 201, 202, 203, 204, 205, 206, 207, 208, 209, 210, 211, 212, 213, 214, 215, 216, 217, 218, 219, 220, 221, 222, 223, 224, 225, 226, 227, 228, 229, 230, 231, 232, 233, 234, 235, 236, 237, 238, 239, 240, 241, 242, 243, 244, 245, 246] (by decide +kernel) (by decide +kernel)) (goodIn_sub (fun _ h => List.mem_cons_of_mem _ (List.mem_append_left _ (List.mem_append_left _ (List.mem_append_right _ h)))) (by decide +kernel))) (goodIn_sub (fun _ h => List.mem_cons_of_mem _ (List.mem_append_left _ (List.mem_append_right _ h))) (by decide +kernel))) (goodIn_sub (fun _ h => List.mem_cons_of_mem _ (List.mem_append_right _ h)) (by decide +kernel))
set_option maxRecDepth 20000 in
theorem gL_refuses_L_act : GoodIn wsL_refuses (va_wsS RL 83 yL_act wsL_act) := goodIn_app (goodIn_of _ (by decide +kernel)) ggL_refuses_L_act
theorem dL_refuses_0 : decode cL_refuses 0 = .ok (.aload_n 0, 1) := by decide +kernel
theorem dL_refuses_1 : decode cL_refuses 1 = .ok (.invokevirtual 69, 3) := by decide +kernel
theorem dL_refuses_4 : decode cL_refuses 4 = .ok (.istore_n 1, 1) := by decide +kernel
theorem dL_refuses_5 : decode cL_refuses 5 = .ok (.aload_n 0, 1) := by decide +kernel
theorem dL_refuses_6 : decode cL_refuses 6 = .ok (.invokevirtual 73, 3) := by decide +kernel
theorem dL_refuses_9 : decode cL_refuses 9 = .ok (.istore_n 2, 1) := by decide +kernel
theorem dL_refuses_10 : decode cL_refuses 10 = .ok (.aload_n 0, 1) := by decide +kernel
theorem dL_refuses_11 : decode cL_refuses 11 = .ok (.invokevirtual 76, 3) := by decide +kernel
theorem dL_refuses_14 : decode cL_refuses 14 = .ok (.istore_n 3, 1) := by decide +kernel
theorem dL_refuses_15 : decode cL_refuses 15 = .ok (.aload_n 0, 1) := by decide +kernel
theorem dL_refuses_16 : decode cL_refuses 16 = .ok (.invokevirtual 79, 3) := by decide +kernel
theorem dL_refuses_19 : decode cL_refuses 19 = .ok (.istore 4, 2) := by decide +kernel
theorem dL_refuses_21 : decode cL_refuses 21 = .ok (.ldc 82, 2) := by decide +kernel
theorem dL_refuses_23 : decode cL_refuses 23 = .ok (.istore 5, 2) := by decide +kernel
theorem dL_refuses_25 : decode cL_refuses 25 = .ok (.iconst 0, 1) := by decide +kernel
theorem dL_refuses_26 : decode cL_refuses 26 = .ok (.istore 6, 2) := by decide +kernel
theorem dL_refuses_28 : decode cL_refuses 28 = .ok (.iload 6, 2) := by decide +kernel
theorem dL_refuses_30 : decode cL_refuses 30 = .ok (.iconst 4, 1) := by decide +kernel
theorem dL_refuses_31 : decode cL_refuses 31 = .ok (.if_icmp .ge 546, 3) := by decide +kernel
theorem dL_refuses_34 : decode cL_refuses 34 = .ok (.iload 6, 2) := by decide +kernel
theorem dL_refuses_36 : decode cL_refuses 36 = .ok (.ifCond .ne 7, 3) := by decide +kernel
theorem dL_refuses_39 : decode cL_refuses 39 = .ok (.iconst (-1), 1) := by decide +kernel
theorem dL_refuses_40 : decode cL_refuses 40 = .ok (.goto 19, 3) := by decide +kernel
theorem dL_refuses_43 : decode cL_refuses 43 = .ok (.iload 6, 2) := by decide +kernel
theorem dL_refuses_45 : decode cL_refuses 45 = .ok (.iconst 2, 1) := by decide +kernel
theorem dL_refuses_46 : decode cL_refuses 46 = .ok (.if_icmp .ne 8, 3) := by decide +kernel
theorem dL_refuses_49 : decode cL_refuses 49 = .ok (.iload 5, 2) := by decide +kernel
theorem dL_refuses_51 : decode cL_refuses 51 = .ok (.goto 8, 3) := by decide +kernel
theorem dL_refuses_54 : decode cL_refuses 54 = .ok (.iload 5, 2) := by decide +kernel
theorem dL_refuses_56 : decode cL_refuses 56 = .ok (.ineg, 1) := by decide +kernel
theorem dL_refuses_57 : decode cL_refuses 57 = .ok (.iconst 1, 1) := by decide +kernel
theorem dL_refuses_58 : decode cL_refuses 58 = .ok (.isub, 1) := by decide +kernel
theorem dL_refuses_59 : decode cL_refuses 59 = .ok (.istore 7, 2) := by decide +kernel
theorem dL_refuses_61 : decode cL_refuses 61 = .ok (.iload 6, 2) := by decide +kernel
theorem dL_refuses_63 : decode cL_refuses 63 = .ok (.iconst 1, 1) := by decide +kernel
theorem dL_refuses_64 : decode cL_refuses 64 = .ok (.if_icmp .ne 7, 3) := by decide +kernel
theorem dL_refuses_67 : decode cL_refuses 67 = .ok (.iload_n 1, 1) := by decide +kernel
theorem dL_refuses_68 : decode cL_refuses 68 = .ok (.goto 5, 3) := by decide +kernel
theorem dL_refuses_71 : decode cL_refuses 71 = .ok (.iload 7, 2) := by decide +kernel
theorem dL_refuses_73 : decode cL_refuses 73 = .ok (.istore 8, 2) := by decide +kernel
theorem dL_refuses_75 : decode cL_refuses 75 = .ok (.iload 6, 2) := by decide +kernel
theorem dL_refuses_77 : decode cL_refuses 77 = .ok (.iconst 1, 1) := by decide +kernel
theorem dL_refuses_78 : decode cL_refuses 78 = .ok (.if_icmp .ne 7, 3) := by decide +kernel
theorem dL_refuses_81 : decode cL_refuses 81 = .ok (.iconst 3, 1) := by decide +kernel
theorem dL_refuses_82 : decode cL_refuses 82 = .ok (.goto 5, 3) := by decide +kernel
theorem dL_refuses_85 : decode cL_refuses 85 = .ok (.iload 7, 2) := by decide +kernel
theorem dL_refuses_87 : decode cL_refuses 87 = .ok (.istore 9, 2) := by decide +kernel
theorem dL_refuses_89 : decode cL_refuses 89 = .ok (.iload 6, 2) := by decide +kernel
theorem dL_refuses_91 : decode cL_refuses 91 = .ok (.iconst 1, 1) := by decide +kernel
theorem dL_refuses_92 : decode cL_refuses 92 = .ok (.if_icmp .ne 8, 3) := by decide +kernel
theorem dL_refuses_95 : decode cL_refuses 95 = .ok (.bipush 101, 2) := by decide +kernel
theorem dL_refuses_97 : decode cL_refuses 97 = .ok (.goto 5, 3) := by decide +kernel
theorem dL_refuses_100 : decode cL_refuses 100 = .ok (.iload 7, 2) := by decide +kernel
theorem dL_refuses_102 : decode cL_refuses 102 = .ok (.istore 10, 2) := by decide +kernel
theorem dL_refuses_104 : decode cL_refuses 104 = .ok (.iload 6, 2) := by decide +kernel
theorem dL_refuses_106 : decode cL_refuses 106 = .ok (.ifCond .ne 7, 3) := by decide +kernel
theorem dL_refuses_109 : decode cL_refuses 109 = .ok (.iconst 0, 1) := by decide +kernel
theorem dL_refuses_110 : decode cL_refuses 110 = .ok (.goto 16, 3) := by decide +kernel
theorem dL_refuses_113 : decode cL_refuses 113 = .ok (.iload 6, 2) := by decide +kernel
theorem dL_refuses_115 : decode cL_refuses 115 = .ok (.iconst 1, 1) := by decide +kernel
theorem dL_refuses_116 : decode cL_refuses 116 = .ok (.if_icmp .ne 8, 3) := by decide +kernel
theorem dL_refuses_119 : decode cL_refuses 119 = .ok (.bipush 33, 2) := by decide +kernel
theorem dL_refuses_121 : decode cL_refuses 121 = .ok (.goto 5, 3) := by decide +kernel
theorem dL_refuses_124 : decode cL_refuses 124 = .ok (.iload 7, 2) := by decide +kernel
theorem dL_refuses_126 : decode cL_refuses 126 = .ok (.istore 11, 2) := by decide +kernel
theorem dL_refuses_128 : decode cL_refuses 128 = .ok (.iload 6, 2) := by decide +kernel
theorem dL_refuses_130 : decode cL_refuses 130 = .ok (.ifCond .ne 7, 3) := by decide +kernel
theorem dL_refuses_133 : decode cL_refuses 133 = .ok (.iconst 0, 1) := by decide +kernel
theorem dL_refuses_134 : decode cL_refuses 134 = .ok (.goto 17, 3) := by decide +kernel
theorem dL_refuses_137 : decode cL_refuses 137 = .ok (.iload 6, 2) := by decide +kernel
theorem dL_refuses_139 : decode cL_refuses 139 = .ok (.iconst 1, 1) := by decide +kernel
theorem dL_refuses_140 : decode cL_refuses 140 = .ok (.if_icmp .ne 9, 3) := by decide +kernel
theorem dL_refuses_143 : decode cL_refuses 143 = .ok (.sipush 501, 3) := by decide +kernel
theorem dL_refuses_146 : decode cL_refuses 146 = .ok (.goto 5, 3) := by decide +kernel
theorem dL_refuses_149 : decode cL_refuses 149 = .ok (.iload 7, 2) := by decide +kernel
theorem dL_refuses_151 : decode cL_refuses 151 = .ok (.istore 12, 2) := by decide +kernel
theorem dL_refuses_153 : decode cL_refuses 153 = .ok (.aload_n 0, 1) := by decide +kernel
theorem dL_refuses_154 : decode cL_refuses 154 = .ok (.iconst 0, 1) := by decide +kernel
theorem dL_refuses_155 : decode cL_refuses 155 = .ok (.iload 6, 2) := by decide +kernel
theorem dL_refuses_157 : decode cL_refuses 157 = .ok (.iconst 1, 1) := by decide +kernel
theorem dL_refuses_158 : decode cL_refuses 158 = .ok (.if_icmp .ne 7, 3) := by decide +kernel
theorem dL_refuses_161 : decode cL_refuses 161 = .ok (.iconst 4, 1) := by decide +kernel
theorem dL_refuses_162 : decode cL_refuses 162 = .ok (.goto 5, 3) := by decide +kernel
theorem dL_refuses_165 : decode cL_refuses 165 = .ok (.iload 7, 2) := by decide +kernel
theorem dL_refuses_167 : decode cL_refuses 167 = .ok (.bipush 6, 2) := by decide +kernel
theorem dL_refuses_169 : decode cL_refuses 169 = .ok (.iconst 0, 1) := by decide +kernel
theorem dL_refuses_170 : decode cL_refuses 170 = .ok (.iconst 0, 1) := by decide +kernel
theorem dL_refuses_171 : decode cL_refuses 171 = .ok (.invokestatic 83, 3) := by decide +kernel
theorem dL_refuses_174 : decode cL_refuses 174 = .ok (.ldc 65, 2) := by decide +kernel
theorem dL_refuses_176 : decode cL_refuses 176 = .ok (.if_icmp .ne 308, 3) := by decide +kernel
theorem dL_refuses_179 : decode cL_refuses 179 = .ok (.aload_n 0, 1) := by decide +kernel
theorem dL_refuses_180 : decode cL_refuses 180 = .ok (.iconst 0, 1) := by decide +kernel
theorem dL_refuses_181 : decode cL_refuses 181 = .ok (.iconst 0, 1) := by decide +kernel
theorem dL_refuses_182 : decode cL_refuses 182 = .ok (.iload 6, 2) := by decide +kernel
theorem dL_refuses_184 : decode cL_refuses 184 = .ok (.ifCond .ne 7, 3) := by decide +kernel
theorem dL_refuses_187 : decode cL_refuses 187 = .ok (.iconst 5, 1) := by decide +kernel
theorem dL_refuses_188 : decode cL_refuses 188 = .ok (.goto 16, 3) := by decide +kernel
theorem dL_refuses_191 : decode cL_refuses 191 = .ok (.iload 6, 2) := by decide +kernel
theorem dL_refuses_193 : decode cL_refuses 193 = .ok (.iconst 1, 1) := by decide +kernel
theorem dL_refuses_194 : decode cL_refuses 194 = .ok (.if_icmp .ne 8, 3) := by decide +kernel
theorem dL_refuses_197 : decode cL_refuses 197 = .ok (.bipush 33, 2) := by decide +kernel
theorem dL_refuses_199 : decode cL_refuses 199 = .ok (.goto 5, 3) := by decide +kernel
theorem dL_refuses_202 : decode cL_refuses 202 = .ok (.iload 7, 2) := by decide +kernel
theorem dL_refuses_204 : decode cL_refuses 204 = .ok (.iconst 0, 1) := by decide +kernel
theorem dL_refuses_205 : decode cL_refuses 205 = .ok (.iconst 0, 1) := by decide +kernel
theorem dL_refuses_206 : decode cL_refuses 206 = .ok (.invokestatic 83, 3) := by decide +kernel
theorem dL_refuses_209 : decode cL_refuses 209 = .ok (.ldc 65, 2) := by decide +kernel
theorem dL_refuses_211 : decode cL_refuses 211 = .ok (.if_icmp .ne 273, 3) := by decide +kernel
theorem dL_refuses_214 : decode cL_refuses 214 = .ok (.aload_n 0, 1) := by decide +kernel
theorem dL_refuses_215 : decode cL_refuses 215 = .ok (.iconst 1, 1) := by decide +kernel
theorem dL_refuses_216 : decode cL_refuses 216 = .ok (.iload 9, 2) := by decide +kernel
theorem dL_refuses_218 : decode cL_refuses 218 = .ok (.iconst 5, 1) := by decide +kernel
theorem dL_refuses_219 : decode cL_refuses 219 = .ok (.iconst 0, 1) := by decide +kernel
theorem dL_refuses_220 : decode cL_refuses 220 = .ok (.iconst 0, 1) := by decide +kernel
theorem dL_refuses_221 : decode cL_refuses 221 = .ok (.invokestatic 83, 3) := by decide +kernel
theorem dL_refuses_224 : decode cL_refuses 224 = .ok (.ldc 65, 2) := by decide +kernel
theorem dL_refuses_226 : decode cL_refuses 226 = .ok (.if_icmp .ne 258, 3) := by decide +kernel
theorem dL_refuses_229 : decode cL_refuses 229 = .ok (.aload_n 0, 1) := by decide +kernel
theorem dL_refuses_230 : decode cL_refuses 230 = .ok (.iconst 1, 1) := by decide +kernel
theorem dL_refuses_231 : decode cL_refuses 231 = .ok (.iconst 0, 1) := by decide +kernel
theorem dL_refuses_232 : decode cL_refuses 232 = .ok (.iload 10, 2) := by decide +kernel
theorem dL_refuses_234 : decode cL_refuses 234 = .ok (.iconst 0, 1) := by decide +kernel
theorem dL_refuses_235 : decode cL_refuses 235 = .ok (.iconst 0, 1) := by decide +kernel
theorem dL_refuses_236 : decode cL_refuses 236 = .ok (.invokestatic 83, 3) := by decide +kernel
theorem dL_refuses_239 : decode cL_refuses 239 = .ok (.ldc 65, 2) := by decide +kernel
theorem dL_refuses_241 : decode cL_refuses 241 = .ok (.if_icmp .ne 243, 3) := by decide +kernel
theorem dL_refuses_244 : decode cL_refuses 244 = .ok (.aload_n 0, 1) := by decide +kernel
theorem dL_refuses_245 : decode cL_refuses 245 = .ok (.iconst 2, 1) := by decide +kernel
theorem dL_refuses_246 : decode cL_refuses 246 = .ok (.iload 10, 2) := by decide +kernel
theorem dL_refuses_248 : decode cL_refuses 248 = .ok (.iconst 0, 1) := by decide +kernel
theorem dL_refuses_249 : decode cL_refuses 249 = .ok (.iconst 0, 1) := by decide +kernel
theorem dL_refuses_250 : decode cL_refuses 250 = .ok (.iconst 0, 1) := by decide +kernel
theorem dL_refuses_251 : decode cL_refuses 251 = .ok (.invokestatic 83, 3) := by decide +kernel
theorem dL_refuses_254 : decode cL_refuses 254 = .ok (.ldc 65, 2) := by decide +kernel
theorem dL_refuses_256 : decode cL_refuses 256 = .ok (.if_icmp .ne 228, 3) := by decide +kernel
theorem dL_refuses_259 : decode cL_refuses 259 = .ok (.aload_n 0, 1) := by decide +kernel
theorem dL_refuses_260 : decode cL_refuses 260 = .ok (.iconst 3, 1) := by decide +kernel
theorem dL_refuses_261 : decode cL_refuses 261 = .ok (.iload 6, 2) := by decide +kernel
theorem dL_refuses_263 : decode cL_refuses 263 = .ok (.iconst 1, 1) := by decide +kernel
theorem dL_refuses_264 : decode cL_refuses 264 = .ok (.if_icmp .ne 7, 3) := by decide +kernel
theorem dL_refuses_267 : decode cL_refuses 267 = .ok (.iconst 2, 1) := by decide +kernel
theorem dL_refuses_268 : decode cL_refuses 268 = .ok (.goto 5, 3) := by decide +kernel
theorem dL_refuses_271 : decode cL_refuses 271 = .ok (.iload 7, 2) := by decide +kernel
theorem dL_refuses_273 : decode cL_refuses 273 = .ok (.iconst 0, 1) := by decide +kernel
theorem dL_refuses_274 : decode cL_refuses 274 = .ok (.iconst 0, 1) := by decide +kernel
theorem dL_refuses_275 : decode cL_refuses 275 = .ok (.iconst 0, 1) := by decide +kernel
theorem dL_refuses_276 : decode cL_refuses 276 = .ok (.invokestatic 83, 3) := by decide +kernel
theorem dL_refuses_279 : decode cL_refuses 279 = .ok (.ldc 65, 2) := by decide +kernel
theorem dL_refuses_281 : decode cL_refuses 281 = .ok (.if_icmp .ne 203, 3) := by decide +kernel
theorem dL_refuses_284 : decode cL_refuses 284 = .ok (.aload_n 0, 1) := by decide +kernel
theorem dL_refuses_285 : decode cL_refuses 285 = .ok (.iconst 4, 1) := by decide +kernel
theorem dL_refuses_286 : decode cL_refuses 286 = .ok (.iload 8, 2) := by decide +kernel
theorem dL_refuses_288 : decode cL_refuses 288 = .ok (.iconst 0, 1) := by decide +kernel
theorem dL_refuses_289 : decode cL_refuses 289 = .ok (.iconst 0, 1) := by decide +kernel
theorem dL_refuses_290 : decode cL_refuses 290 = .ok (.iconst 0, 1) := by decide +kernel
theorem dL_refuses_291 : decode cL_refuses 291 = .ok (.invokestatic 83, 3) := by decide +kernel
theorem dL_refuses_294 : decode cL_refuses 294 = .ok (.ldc 62, 2) := by decide +kernel
theorem dL_refuses_296 : decode cL_refuses 296 = .ok (.if_icmp .ne 188, 3) := by decide +kernel
theorem dL_refuses_299 : decode cL_refuses 299 = .ok (.aload_n 0, 1) := by decide +kernel
theorem dL_refuses_300 : decode cL_refuses 300 = .ok (.iconst 4, 1) := by decide +kernel
theorem dL_refuses_301 : decode cL_refuses 301 = .ok (.iconst 0, 1) := by decide +kernel
theorem dL_refuses_302 : decode cL_refuses 302 = .ok (.iload 6, 2) := by decide +kernel
theorem dL_refuses_304 : decode cL_refuses 304 = .ok (.ifCond .ne 7, 3) := by decide +kernel
theorem dL_refuses_307 : decode cL_refuses 307 = .ok (.iconst 0, 1) := by decide +kernel
theorem dL_refuses_308 : decode cL_refuses 308 = .ok (.goto 17, 3) := by decide +kernel
theorem dL_refuses_311 : decode cL_refuses 311 = .ok (.iload 6, 2) := by decide +kernel
theorem dL_refuses_313 : decode cL_refuses 313 = .ok (.iconst 1, 1) := by decide +kernel
theorem dL_refuses_314 : decode cL_refuses 314 = .ok (.if_icmp .ne 9, 3) := by decide +kernel
theorem dL_refuses_317 : decode cL_refuses 317 = .ok (.sipush 5001, 3) := by decide +kernel
theorem dL_refuses_320 : decode cL_refuses 320 = .ok (.goto 5, 3) := by decide +kernel
theorem dL_refuses_323 : decode cL_refuses 323 = .ok (.iload 7, 2) := by decide +kernel
theorem dL_refuses_325 : decode cL_refuses 325 = .ok (.iconst 5, 1) := by decide +kernel
theorem dL_refuses_326 : decode cL_refuses 326 = .ok (.iconst 5, 1) := by decide +kernel
theorem dL_refuses_327 : decode cL_refuses 327 = .ok (.invokestatic 83, 3) := by decide +kernel
theorem dL_refuses_330 : decode cL_refuses 330 = .ok (.ldc 65, 2) := by decide +kernel
theorem dL_refuses_332 : decode cL_refuses 332 = .ok (.if_icmp .ne 152, 3) := by decide +kernel
theorem dL_refuses_335 : decode cL_refuses 335 = .ok (.aload_n 0, 1) := by decide +kernel
theorem dL_refuses_336 : decode cL_refuses 336 = .ok (.iconst 4, 1) := by decide +kernel
theorem dL_refuses_337 : decode cL_refuses 337 = .ok (.iconst 0, 1) := by decide +kernel
theorem dL_refuses_338 : decode cL_refuses 338 = .ok (.iconst 5, 1) := by decide +kernel
theorem dL_refuses_339 : decode cL_refuses 339 = .ok (.iload 11, 2) := by decide +kernel
theorem dL_refuses_341 : decode cL_refuses 341 = .ok (.iconst 5, 1) := by decide +kernel
theorem dL_refuses_342 : decode cL_refuses 342 = .ok (.invokestatic 83, 3) := by decide +kernel
theorem dL_refuses_345 : decode cL_refuses 345 = .ok (.ldc 65, 2) := by decide +kernel
theorem dL_refuses_347 : decode cL_refuses 347 = .ok (.if_icmp .ne 137, 3) := by decide +kernel
theorem dL_refuses_350 : decode cL_refuses 350 = .ok (.aload_n 0, 1) := by decide +kernel
theorem dL_refuses_351 : decode cL_refuses 351 = .ok (.iconst 4, 1) := by decide +kernel
theorem dL_refuses_352 : decode cL_refuses 352 = .ok (.iconst 0, 1) := by decide +kernel
theorem dL_refuses_353 : decode cL_refuses 353 = .ok (.iconst 5, 1) := by decide +kernel
theorem dL_refuses_354 : decode cL_refuses 354 = .ok (.iconst 5, 1) := by decide +kernel
theorem dL_refuses_355 : decode cL_refuses 355 = .ok (.iload 12, 2) := by decide +kernel
theorem dL_refuses_357 : decode cL_refuses 357 = .ok (.invokestatic 83, 3) := by decide +kernel
theorem dL_refuses_360 : decode cL_refuses 360 = .ok (.ldc 65, 2) := by decide +kernel
theorem dL_refuses_362 : decode cL_refuses 362 = .ok (.if_icmp .ne 122, 3) := by decide +kernel
theorem dL_refuses_365 : decode cL_refuses 365 = .ok (.aload_n 0, 1) := by decide +kernel
theorem dL_refuses_366 : decode cL_refuses 366 = .ok (.iconst 5, 1) := by decide +kernel
theorem dL_refuses_367 : decode cL_refuses 367 = .ok (.iload 8, 2) := by decide +kernel
theorem dL_refuses_369 : decode cL_refuses 369 = .ok (.iconst 0, 1) := by decide +kernel
theorem dL_refuses_370 : decode cL_refuses 370 = .ok (.iconst 0, 1) := by decide +kernel
theorem dL_refuses_371 : decode cL_refuses 371 = .ok (.iconst 0, 1) := by decide +kernel
theorem dL_refuses_372 : decode cL_refuses 372 = .ok (.invokestatic 83, 3) := by decide +kernel
theorem dL_refuses_375 : decode cL_refuses 375 = .ok (.ldc 62, 2) := by decide +kernel
theorem dL_refuses_377 : decode cL_refuses 377 = .ok (.if_icmp .ne 107, 3) := by decide +kernel
theorem dL_refuses_380 : decode cL_refuses 380 = .ok (.aload_n 0, 1) := by decide +kernel
theorem dL_refuses_381 : decode cL_refuses 381 = .ok (.bipush 6, 2) := by decide +kernel
theorem dL_refuses_383 : decode cL_refuses 383 = .ok (.iload 8, 2) := by decide +kernel
theorem dL_refuses_385 : decode cL_refuses 385 = .ok (.iconst 0, 1) := by decide +kernel
theorem dL_refuses_386 : decode cL_refuses 386 = .ok (.iconst 0, 1) := by decide +kernel
theorem dL_refuses_387 : decode cL_refuses 387 = .ok (.iconst 0, 1) := by decide +kernel
theorem dL_refuses_388 : decode cL_refuses 388 = .ok (.invokestatic 83, 3) := by decide +kernel
theorem dL_refuses_391 : decode cL_refuses 391 = .ok (.ldc 62, 2) := by decide +kernel
theorem dL_refuses_393 : decode cL_refuses 393 = .ok (.if_icmp .ne 91, 3) := by decide +kernel
theorem dL_refuses_396 : decode cL_refuses 396 = .ok (.aload_n 0, 1) := by decide +kernel
theorem dL_refuses_397 : decode cL_refuses 397 = .ok (.bipush 6, 2) := by decide +kernel
theorem dL_refuses_399 : decode cL_refuses 399 = .ok (.iconst 0, 1) := by decide +kernel
theorem dL_refuses_400 : decode cL_refuses 400 = .ok (.iload 11, 2) := by decide +kernel
theorem dL_refuses_402 : decode cL_refuses 402 = .ok (.iconst 0, 1) := by decide +kernel
theorem dL_refuses_403 : decode cL_refuses 403 = .ok (.iconst 0, 1) := by decide +kernel
theorem dL_refuses_404 : decode cL_refuses 404 = .ok (.invokestatic 83, 3) := by decide +kernel
theorem dL_refuses_407 : decode cL_refuses 407 = .ok (.ldc 65, 2) := by decide +kernel
theorem dL_refuses_409 : decode cL_refuses 409 = .ok (.if_icmp .ne 75, 3) := by decide +kernel
theorem dL_refuses_412 : decode cL_refuses 412 = .ok (.aload_n 0, 1) := by decide +kernel
theorem dL_refuses_413 : decode cL_refuses 413 = .ok (.bipush 7, 2) := by decide +kernel
theorem dL_refuses_415 : decode cL_refuses 415 = .ok (.iload 8, 2) := by decide +kernel
theorem dL_refuses_417 : decode cL_refuses 417 = .ok (.iconst 0, 1) := by decide +kernel
theorem dL_refuses_418 : decode cL_refuses 418 = .ok (.iconst 0, 1) := by decide +kernel
theorem dL_refuses_419 : decode cL_refuses 419 = .ok (.iconst 0, 1) := by decide +kernel
theorem dL_refuses_420 : decode cL_refuses 420 = .ok (.invokestatic 83, 3) := by decide +kernel
theorem dL_refuses_423 : decode cL_refuses 423 = .ok (.ldc 62, 2) := by decide +kernel
theorem dL_refuses_425 : decode cL_refuses 425 = .ok (.if_icmp .ne 59, 3) := by decide +kernel
theorem dL_refuses_428 : decode cL_refuses 428 = .ok (.aload_n 0, 1) := by decide +kernel
theorem dL_refuses_429 : decode cL_refuses 429 = .ok (.bipush 7, 2) := by decide +kernel
theorem dL_refuses_431 : decode cL_refuses 431 = .ok (.iconst 0, 1) := by decide +kernel
theorem dL_refuses_432 : decode cL_refuses 432 = .ok (.iload 12, 2) := by decide +kernel
theorem dL_refuses_434 : decode cL_refuses 434 = .ok (.iconst 0, 1) := by decide +kernel
theorem dL_refuses_435 : decode cL_refuses 435 = .ok (.iconst 0, 1) := by decide +kernel
theorem dL_refuses_436 : decode cL_refuses 436 = .ok (.invokestatic 83, 3) := by decide +kernel
theorem dL_refuses_439 : decode cL_refuses 439 = .ok (.ldc 65, 2) := by decide +kernel
theorem dL_refuses_441 : decode cL_refuses 441 = .ok (.if_icmp .ne 43, 3) := by decide +kernel
theorem dL_refuses_444 : decode cL_refuses 444 = .ok (.aload_n 0, 1) := by decide +kernel
theorem dL_refuses_445 : decode cL_refuses 445 = .ok (.bipush 8, 2) := by decide +kernel
theorem dL_refuses_447 : decode cL_refuses 447 = .ok (.iload 6, 2) := by decide +kernel
theorem dL_refuses_449 : decode cL_refuses 449 = .ok (.ifCond .ne 7, 3) := by decide +kernel
theorem dL_refuses_452 : decode cL_refuses 452 = .ok (.iconst 0, 1) := by decide +kernel
theorem dL_refuses_453 : decode cL_refuses 453 = .ok (.goto 16, 3) := by decide +kernel
theorem dL_refuses_456 : decode cL_refuses 456 = .ok (.iload 6, 2) := by decide +kernel
theorem dL_refuses_458 : decode cL_refuses 458 = .ok (.iconst 1, 1) := by decide +kernel
theorem dL_refuses_459 : decode cL_refuses 459 = .ok (.if_icmp .ne 8, 3) := by decide +kernel
theorem dL_refuses_462 : decode cL_refuses 462 = .ok (.bipush 51, 2) := by decide +kernel
theorem dL_refuses_464 : decode cL_refuses 464 = .ok (.goto 5, 3) := by decide +kernel
theorem dL_refuses_467 : decode cL_refuses 467 = .ok (.iload 7, 2) := by decide +kernel
theorem dL_refuses_469 : decode cL_refuses 469 = .ok (.iconst 0, 1) := by decide +kernel
theorem dL_refuses_470 : decode cL_refuses 470 = .ok (.iconst 0, 1) := by decide +kernel
theorem dL_refuses_471 : decode cL_refuses 471 = .ok (.iconst 0, 1) := by decide +kernel
theorem dL_refuses_472 : decode cL_refuses 472 = .ok (.invokestatic 83, 3) := by decide +kernel
theorem dL_refuses_475 : decode cL_refuses 475 = .ok (.ldc 65, 2) := by decide +kernel
theorem dL_refuses_477 : decode cL_refuses 477 = .ok (.if_icmp .ne 7, 3) := by decide +kernel
theorem dL_refuses_480 : decode cL_refuses 480 = .ok (.iconst 1, 1) := by decide +kernel
theorem dL_refuses_481 : decode cL_refuses 481 = .ok (.goto 4, 3) := by decide +kernel
theorem dL_refuses_484 : decode cL_refuses 484 = .ok (.iconst 0, 1) := by decide +kernel
theorem dL_refuses_485 : decode cL_refuses 485 = .ok (.istore 13, 2) := by decide +kernel
theorem dL_refuses_487 : decode cL_refuses 487 = .ok (.bipush 9, 2) := by decide +kernel
theorem dL_refuses_489 : decode cL_refuses 489 = .ok (.istore 14, 2) := by decide +kernel
theorem dL_refuses_491 : decode cL_refuses 491 = .ok (.iload 14, 2) := by decide +kernel
theorem dL_refuses_493 : decode cL_refuses 493 = .ok (.bipush 14, 2) := by decide +kernel
theorem dL_refuses_495 : decode cL_refuses 495 = .ok (.if_icmp .ge 37, 3) := by decide +kernel
theorem dL_refuses_498 : decode cL_refuses 498 = .ok (.iload 13, 2) := by decide +kernel
theorem dL_refuses_500 : decode cL_refuses 500 = .ok (.ifCond .eq 23, 3) := by decide +kernel
theorem dL_refuses_503 : decode cL_refuses 503 = .ok (.aload_n 0, 1) := by decide +kernel
theorem dL_refuses_504 : decode cL_refuses 504 = .ok (.iload 14, 2) := by decide +kernel
theorem dL_refuses_506 : decode cL_refuses 506 = .ok (.iload 8, 2) := by decide +kernel
theorem dL_refuses_508 : decode cL_refuses 508 = .ok (.iconst 0, 1) := by decide +kernel
theorem dL_refuses_509 : decode cL_refuses 509 = .ok (.iconst 0, 1) := by decide +kernel
theorem dL_refuses_510 : decode cL_refuses 510 = .ok (.iconst 0, 1) := by decide +kernel
theorem dL_refuses_511 : decode cL_refuses 511 = .ok (.invokestatic 83, 3) := by decide +kernel
theorem dL_refuses_514 : decode cL_refuses 514 = .ok (.ldc 62, 2) := by decide +kernel
theorem dL_refuses_516 : decode cL_refuses 516 = .ok (.if_icmp .ne 7, 3) := by decide +kernel
theorem dL_refuses_519 : decode cL_refuses 519 = .ok (.iconst 1, 1) := by decide +kernel
theorem dL_refuses_520 : decode cL_refuses 520 = .ok (.goto 4, 3) := by decide +kernel
theorem dL_refuses_523 : decode cL_refuses 523 = .ok (.iconst 0, 1) := by decide +kernel
theorem dL_refuses_524 : decode cL_refuses 524 = .ok (.istore 13, 2) := by decide +kernel
theorem dL_refuses_526 : decode cL_refuses 526 = .ok (.iinc 14 1, 3) := by decide +kernel
theorem dL_refuses_529 : decode cL_refuses 529 = .ok (.goto (-38), 3) := by decide +kernel
theorem dL_refuses_532 : decode cL_refuses 532 = .ok (.iload 13, 2) := by decide +kernel
theorem dL_refuses_534 : decode cL_refuses 534 = .ok (.ifCond .eq 35, 3) := by decide +kernel
theorem dL_refuses_537 : decode cL_refuses 537 = .ok (.aload_n 0, 1) := by decide +kernel
theorem dL_refuses_538 : decode cL_refuses 538 = .ok (.bipush 14, 2) := by decide +kernel
theorem dL_refuses_540 : decode cL_refuses 540 = .ok (.iload 9, 2) := by decide +kernel
theorem dL_refuses_542 : decode cL_refuses 542 = .ok (.iconst 0, 1) := by decide +kernel
theorem dL_refuses_543 : decode cL_refuses 543 = .ok (.iconst 0, 1) := by decide +kernel
theorem dL_refuses_544 : decode cL_refuses 544 = .ok (.iconst 0, 1) := by decide +kernel
theorem dL_refuses_545 : decode cL_refuses 545 = .ok (.invokestatic 83, 3) := by decide +kernel
theorem dL_refuses_548 : decode cL_refuses 548 = .ok (.ldc 65, 2) := by decide +kernel
theorem dL_refuses_550 : decode cL_refuses 550 = .ok (.if_icmp .ne 19, 3) := by decide +kernel
theorem dL_refuses_553 : decode cL_refuses 553 = .ok (.aload_n 0, 1) := by decide +kernel
theorem dL_refuses_554 : decode cL_refuses 554 = .ok (.bipush 15, 2) := by decide +kernel
theorem dL_refuses_556 : decode cL_refuses 556 = .ok (.iload 9, 2) := by decide +kernel
theorem dL_refuses_558 : decode cL_refuses 558 = .ok (.iconst 0, 1) := by decide +kernel
theorem dL_refuses_559 : decode cL_refuses 559 = .ok (.iconst 0, 1) := by decide +kernel
theorem dL_refuses_560 : decode cL_refuses 560 = .ok (.iconst 0, 1) := by decide +kernel
theorem dL_refuses_561 : decode cL_refuses 561 = .ok (.invokestatic 83, 3) := by decide +kernel
theorem dL_refuses_564 : decode cL_refuses 564 = .ok (.ldc 65, 2) := by decide +kernel
theorem dL_refuses_566 : decode cL_refuses 566 = .ok (.if_icmp .eq 5, 3) := by decide +kernel
theorem dL_refuses_569 : decode cL_refuses 569 = .ok (.iconst 0, 1) := by decide +kernel
theorem dL_refuses_570 : decode cL_refuses 570 = .ok (.ireturn, 1) := by decide +kernel
theorem dL_refuses_571 : decode cL_refuses 571 = .ok (.iinc 6 1, 3) := by decide +kernel
theorem dL_refuses_574 : decode cL_refuses 574 = .ok (.goto (-546), 3) := by decide +kernel
theorem dL_refuses_577 : decode cL_refuses 577 = .ok (.aload_n 0, 1) := by decide +kernel
theorem dL_refuses_578 : decode cL_refuses 578 = .ok (.invokevirtual 69, 3) := by decide +kernel
theorem dL_refuses_581 : decode cL_refuses 581 = .ok (.iload_n 1, 1) := by decide +kernel
theorem dL_refuses_582 : decode cL_refuses 582 = .ok (.if_icmp .ne 32, 3) := by decide +kernel
theorem dL_refuses_585 : decode cL_refuses 585 = .ok (.aload_n 0, 1) := by decide +kernel
theorem dL_refuses_586 : decode cL_refuses 586 = .ok (.invokevirtual 73, 3) := by decide +kernel
theorem dL_refuses_589 : decode cL_refuses 589 = .ok (.iload_n 2, 1) := by decide +kernel
theorem dL_refuses_590 : decode cL_refuses 590 = .ok (.if_icmp .ne 24, 3) := by decide +kernel
theorem dL_refuses_593 : decode cL_refuses 593 = .ok (.aload_n 0, 1) := by decide +kernel
theorem dL_refuses_594 : decode cL_refuses 594 = .ok (.invokevirtual 76, 3) := by decide +kernel
theorem dL_refuses_597 : decode cL_refuses 597 = .ok (.iload_n 3, 1) := by decide +kernel
theorem dL_refuses_598 : decode cL_refuses 598 = .ok (.if_icmp .ne 16, 3) := by decide +kernel
theorem dL_refuses_601 : decode cL_refuses 601 = .ok (.aload_n 0, 1) := by decide +kernel
theorem dL_refuses_602 : decode cL_refuses 602 = .ok (.invokevirtual 79, 3) := by decide +kernel
theorem dL_refuses_605 : decode cL_refuses 605 = .ok (.iload 4, 2) := by decide +kernel
theorem dL_refuses_607 : decode cL_refuses 607 = .ok (.if_icmp .ne 7, 3) := by decide +kernel
theorem dL_refuses_610 : decode cL_refuses 610 = .ok (.iconst 1, 1) := by decide +kernel
theorem dL_refuses_611 : decode cL_refuses 611 = .ok (.goto 4, 3) := by decide +kernel
theorem dL_refuses_614 : decode cL_refuses 614 = .ok (.iconst 0, 1) := by decide +kernel
theorem dL_refuses_615 : decode cL_refuses 615 = .ok (.ireturn, 1) := by decide +kernel
set_option maxRecDepth 20000 in
theorem ggL_gives_X0_current : GoodIn wsL_gives wsX0_current := goodIn_ca (goodIn_r _ [5, 6, 7, 8, 9, 4, 10, 11, 12, 13, 14, 15, 16, 17, 18, 19, 20, 21, 22, 23, 24, 25, 26, 27, 28, 29, 30, 31, 32, 33, 34, 35, 36, 37, 38, 39, 40, 41, 42, 43, 44, 45, 46, 47, 48, 49, 50, 51, 52, 53, 54, 55, 56, 57, 58, 59, 60, 61, 62, 63, 64, 65, 66, 67, 68, 69, 70, 71, 72, 73, 74, 75, 76, 77, 78, 79, 80, 81, 82, 83, 84, 85, 86, 87, 88, 89, 90, 91, 92, 93, 94, 95, 96, 97, 98, 99, 100, 101, 102, 103, 104, 105, 106, 107, 108, 109, 110, 111, 112, 113, 114, 115, 116, 117, 118, 119, 120, 121, 122, 123, 124, 125, 126, 127] (by decide +kernel) (by decide +kernel)) (goodIn_sub (fun _ h => List.mem_cons_of_mem _ (List.mem_append_right _ h)) (by decide +kernel))
set_option maxRecDepth 20000 in
theorem gL_gives_X0_current : GoodIn wsL_gives (wsV RL 51 RX0 yX0_current wsX0_current) := goodIn_app (goodIn_of _ (by decide +kernel)) ggL_gives_X0_current
theorem dL_gives_0 : decode cL_gives 0 = .ok (.aload_n 0, 1) := by decide +kernel
theorem dL_gives_1 : decode cL_gives 1 = .ok (.iconst 0, 1) := by decide +kernel
theorem dL_gives_2 : decode cL_gives 2 = .ok (.invokevirtual 51, 3) := by decide +kernel
theorem dL_gives_5 : decode cL_gives 5 = .ok (.iload_n 1, 1) := by decide +kernel
theorem dL_gives_6 : decode cL_gives 6 = .ok (.if_icmp .ne 35, 3) := by decide +kernel
theorem dL_gives_9 : decode cL_gives 9 = .ok (.aload_n 0, 1) := by decide +kernel
theorem dL_gives_10 : decode cL_gives 10 = .ok (.iconst 1, 1) := by decide +kernel
theorem dL_gives_11 : decode cL_gives 11 = .ok (.invokevirtual 51, 3) := by decide +kernel
theorem dL_gives_14 : decode cL_gives 14 = .ok (.iload_n 2, 1) := by decide +kernel
theorem dL_gives_15 : decode cL_gives 15 = .ok (.if_icmp .ne 26, 3) := by decide +kernel
theorem dL_gives_18 : decode cL_gives 18 = .ok (.aload_n 0, 1) := by decide +kernel
theorem dL_gives_19 : decode cL_gives 19 = .ok (.iconst 2, 1) := by decide +kernel
theorem dL_gives_20 : decode cL_gives 20 = .ok (.invokevirtual 51, 3) := by decide +kernel
theorem dL_gives_23 : decode cL_gives 23 = .ok (.iload_n 3, 1) := by decide +kernel
theorem dL_gives_24 : decode cL_gives 24 = .ok (.if_icmp .ne 17, 3) := by decide +kernel
theorem dL_gives_27 : decode cL_gives 27 = .ok (.aload_n 0, 1) := by decide +kernel
theorem dL_gives_28 : decode cL_gives 28 = .ok (.iconst 3, 1) := by decide +kernel
theorem dL_gives_29 : decode cL_gives 29 = .ok (.invokevirtual 51, 3) := by decide +kernel
theorem dL_gives_32 : decode cL_gives 32 = .ok (.iload 4, 2) := by decide +kernel
theorem dL_gives_34 : decode cL_gives 34 = .ok (.if_icmp .ne 7, 3) := by decide +kernel
theorem dL_gives_37 : decode cL_gives 37 = .ok (.iconst 1, 1) := by decide +kernel
theorem dL_gives_38 : decode cL_gives 38 = .ok (.goto 4, 3) := by decide +kernel
theorem dL_gives_41 : decode cL_gives 41 = .ok (.iconst 0, 1) := by decide +kernel
theorem dL_gives_42 : decode cL_gives 42 = .ok (.ireturn, 1) := by decide +kernel
set_option maxRecDepth 20000 in
theorem ggL_loads_X0_load : GoodIn wsL_loads wsX0_load := goodIn_ca (goodIn_r _ [5, 6, 7, 8, 4, 9, 10, 11, 12, 13, 14, 15, 16, 17, 18, 19, 20, 21, 22, 23, 24, 25, 26, 27, 28, 29, 30, 31, 32, 33, 34, 35, 36, 37, 38, 39, 40, 41, 42, 43, 44, 45, 46, 47, 48, 49, 50, 51, 52, 53, 54, 55, 56, 57, 58, 59, 60, 61, 62, 63, 64, 65, 66, 67, 68, 69, 70, 71, 72, 73, 74, 75, 76, 77, 78, 79, 80, 81, 82, 83, 84, 85, 86, 87, 88, 89, 90, 91, 92, 93, 94, 95, 96, 97, 98, 99, 100, 101, 102, 103, 104, 105, 106, 107, 108, 109, 110, 115, 116, 117, 118, 119, 120, 121, 122, 123, 124, 125, 126, 127, 128, 129, 130] (by decide +kernel) (by decide +kernel)) (goodIn_sub (fun _ h => List.mem_cons_of_mem _ (List.mem_append_right _ h)) (by decide +kernel))
set_option maxRecDepth 20000 in
theorem gL_loads_X0_load : GoodIn wsL_loads (wsV RL 54 RX0 yX0_load wsX0_load) := goodIn_app (goodIn_of _ (by decide +kernel)) ggL_loads_X0_load
set_option maxRecDepth 20000 in
theorem ggL_loads_X0_imbalance : GoodIn wsL_loads wsX0_imbalance := goodIn_r _ [114, 12, 13, 14, 4, 15, 16, 17, 18, 19, 20, 21, 22, 23, 6, 24, 25, 26, 27, 28, 29, 30, 31, 32, 33, 34, 35, 36, 37, 38, 39, 40, 41, 42, 43, 44, 45, 46, 47, 48, 49, 50, 51, 52, 53, 54, 55, 56, 57, 58, 59, 60, 61, 62, 63, 64, 65, 66, 67, 68, 69, 70, 71, 72, 73, 74, 75, 76, 77, 78, 79, 80, 81, 82, 83, 84, 85, 86, 87, 88, 89, 90, 91, 92, 93, 94, 95, 96, 97, 98, 99, 100, 101, 102, 103, 104, 105, 106, 107, 108, 109, 110, 115, 116, 117, 118, 119, 120, 121, 122, 123, 124, 125, 126, 127, 128, 129, 130] (by decide +kernel) (by decide +kernel)
set_option maxRecDepth 20000 in
theorem gL_loads_X0_imbalance : GoodIn wsL_loads (wsV RL 89 RX0 yX0_imbalance wsX0_imbalance) := goodIn_app (goodIn_of _ (by decide +kernel)) ggL_loads_X0_imbalance
theorem dL_loads_0 : decode cL_loads 0 = .ok (.aload_n 0, 1) := by decide +kernel
theorem dL_loads_1 : decode cL_loads 1 = .ok (.iconst 0, 1) := by decide +kernel
theorem dL_loads_2 : decode cL_loads 2 = .ok (.invokevirtual 54, 3) := by decide +kernel
theorem dL_loads_5 : decode cL_loads 5 = .ok (.iload_n 1, 1) := by decide +kernel
theorem dL_loads_6 : decode cL_loads 6 = .ok (.if_icmp .ne 34, 3) := by decide +kernel
theorem dL_loads_9 : decode cL_loads 9 = .ok (.aload_n 0, 1) := by decide +kernel
theorem dL_loads_10 : decode cL_loads 10 = .ok (.iconst 1, 1) := by decide +kernel
theorem dL_loads_11 : decode cL_loads 11 = .ok (.invokevirtual 54, 3) := by decide +kernel
theorem dL_loads_14 : decode cL_loads 14 = .ok (.iload_n 2, 1) := by decide +kernel
theorem dL_loads_15 : decode cL_loads 15 = .ok (.if_icmp .ne 25, 3) := by decide +kernel
theorem dL_loads_18 : decode cL_loads 18 = .ok (.aload_n 0, 1) := by decide +kernel
theorem dL_loads_19 : decode cL_loads 19 = .ok (.iconst 2, 1) := by decide +kernel
theorem dL_loads_20 : decode cL_loads 20 = .ok (.invokevirtual 54, 3) := by decide +kernel
theorem dL_loads_23 : decode cL_loads 23 = .ok (.iload_n 3, 1) := by decide +kernel
theorem dL_loads_24 : decode cL_loads 24 = .ok (.if_icmp .ne 16, 3) := by decide +kernel
theorem dL_loads_27 : decode cL_loads 27 = .ok (.aload_n 0, 1) := by decide +kernel
theorem dL_loads_28 : decode cL_loads 28 = .ok (.invokevirtual 89, 3) := by decide +kernel
theorem dL_loads_31 : decode cL_loads 31 = .ok (.iload 4, 2) := by decide +kernel
theorem dL_loads_33 : decode cL_loads 33 = .ok (.if_icmp .ne 7, 3) := by decide +kernel
theorem dL_loads_36 : decode cL_loads 36 = .ok (.iconst 1, 1) := by decide +kernel
theorem dL_loads_37 : decode cL_loads 37 = .ok (.goto 4, 3) := by decide +kernel
theorem dL_loads_40 : decode cL_loads 40 = .ok (.iconst 0, 1) := by decide +kernel
theorem dL_loads_41 : decode cL_loads 41 = .ok (.ireturn, 1) := by decide +kernel
