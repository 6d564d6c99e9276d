theorem dX0_init_0 : decode cX0_init 0 = .ok (.aload_n 0, 1) := by decide +kernel
theorem dX0_init_1 : decode cX0_init 1 = .ok (.invokespecial 1, 3) := by decide +kernel
theorem dX0_init_4 : decode cX0_init 4 = .ok (.aload_n 0, 1) := by decide +kernel
theorem dX0_init_5 : decode cX0_init 5 = .ok (.bipush 8, 2) := by decide +kernel
theorem dX0_init_7 : decode cX0_init 7 = .ok (.newarray .int, 2) := by decide +kernel
theorem dX0_init_9 : decode cX0_init 9 = .ok (.putfield 9, 3) := by decide +kernel
theorem dX0_init_12 : decode cX0_init 12 = .ok (.aload_n 0, 1) := by decide +kernel
theorem dX0_init_13 : decode cX0_init 13 = .ok (.bipush 8, 2) := by decide +kernel
theorem dX0_init_15 : decode cX0_init 15 = .ok (.newarray .int, 2) := by decide +kernel
theorem dX0_init_17 : decode cX0_init 17 = .ok (.putfield 13, 3) := by decide +kernel
theorem dX0_init_20 : decode cX0_init 20 = .ok (.aload_n 0, 1) := by decide +kernel
theorem dX0_init_21 : decode cX0_init 21 = .ok (.bipush 8, 2) := by decide +kernel
theorem dX0_init_23 : decode cX0_init 23 = .ok (.newarray .int, 2) := by decide +kernel
theorem dX0_init_25 : decode cX0_init 25 = .ok (.putfield 16, 3) := by decide +kernel
theorem dX0_init_28 : decode cX0_init 28 = .ok (.aload_n 0, 1) := by decide +kernel
theorem dX0_init_29 : decode cX0_init 29 = .ok (.bipush 8, 2) := by decide +kernel
theorem dX0_init_31 : decode cX0_init 31 = .ok (.newarray .int, 2) := by decide +kernel
theorem dX0_init_33 : decode cX0_init 33 = .ok (.putfield 19, 3) := by decide +kernel
theorem dX0_init_36 : decode cX0_init 36 = .ok (.aload_n 0, 1) := by decide +kernel
theorem dX0_init_37 : decode cX0_init 37 = .ok (.bipush 8, 2) := by decide +kernel
theorem dX0_init_39 : decode cX0_init 39 = .ok (.newarray .int, 2) := by decide +kernel
theorem dX0_init_41 : decode cX0_init 41 = .ok (.putfield 22, 3) := by decide +kernel
theorem dX0_init_44 : decode cX0_init 44 = .ok (.aload_n 0, 1) := by decide +kernel
theorem dX0_init_45 : decode cX0_init 45 = .ok (.bipush 8, 2) := by decide +kernel
theorem dX0_init_47 : decode cX0_init 47 = .ok (.newarray .int, 2) := by decide +kernel
theorem dX0_init_49 : decode cX0_init 49 = .ok (.putfield 25, 3) := by decide +kernel
theorem dX0_init_52 : decode cX0_init 52 = .ok (.aload_n 0, 1) := by decide +kernel
theorem dX0_init_53 : decode cX0_init 53 = .ok (.bipush 8, 2) := by decide +kernel
theorem dX0_init_55 : decode cX0_init 55 = .ok (.newarray .int, 2) := by decide +kernel
theorem dX0_init_57 : decode cX0_init 57 = .ok (.putfield 28, 3) := by decide +kernel
theorem dX0_init_60 : decode cX0_init 60 = .ok (.aload_n 0, 1) := by decide +kernel
theorem dX0_init_61 : decode cX0_init 61 = .ok (.bipush 8, 2) := by decide +kernel
theorem dX0_init_63 : decode cX0_init 63 = .ok (.newarray .int, 2) := by decide +kernel
theorem dX0_init_65 : decode cX0_init 65 = .ok (.putfield 31, 3) := by decide +kernel
theorem dX0_init_68 : decode cX0_init 68 = .ok (.aload_n 0, 1) := by decide +kernel
theorem dX0_init_69 : decode cX0_init 69 = .ok (.iconst 3, 1) := by decide +kernel
theorem dX0_init_70 : decode cX0_init 70 = .ok (.newarray .int, 2) := by decide +kernel
theorem dX0_init_72 : decode cX0_init 72 = .ok (.putfield 34, 3) := by decide +kernel
theorem dX0_init_75 : decode cX0_init 75 = .ok (.aload_n 0, 1) := by decide +kernel
theorem dX0_init_76 : decode cX0_init 76 = .ok (.iconst 3, 1) := by decide +kernel
theorem dX0_init_77 : decode cX0_init 77 = .ok (.newarray .int, 2) := by decide +kernel
theorem dX0_init_79 : decode cX0_init 79 = .ok (.putfield 37, 3) := by decide +kernel
theorem dX0_init_82 : decode cX0_init 82 = .ok (.iconst 0, 1) := by decide +kernel
theorem dX0_init_83 : decode cX0_init 83 = .ok (.istore_n 1, 1) := by decide +kernel
theorem dX0_init_84 : decode cX0_init 84 = .ok (.iload_n 1, 1) := by decide +kernel
theorem dX0_init_85 : decode cX0_init 85 = .ok (.iconst 3, 1) := by decide +kernel
theorem dX0_init_86 : decode cX0_init 86 = .ok (.if_icmp .ge 17, 3) := by decide +kernel
theorem dX0_init_89 : decode cX0_init 89 = .ok (.aload_n 0, 1) := by decide +kernel
theorem dX0_init_90 : decode cX0_init 90 = .ok (.getfield 37, 3) := by decide +kernel
theorem dX0_init_93 : decode cX0_init 93 = .ok (.iload_n 1, 1) := by decide +kernel
theorem dX0_init_94 : decode cX0_init 94 = .ok (.bipush 32, 2) := by decide +kernel
theorem dX0_init_96 : decode cX0_init 96 = .ok (.iastore, 1) := by decide +kernel
theorem dX0_init_97 : decode cX0_init 97 = .ok (.iinc 1 1, 3) := by decide +kernel
theorem dX0_init_100 : decode cX0_init 100 = .ok (.goto (-16), 3) := by decide +kernel
theorem dX0_init_103 : decode cX0_init 103 = .ok (.aload_n 0, 1) := by decide +kernel
theorem dX0_init_104 : decode cX0_init 104 = .ok (.bipush 100, 2) := by decide +kernel
theorem dX0_init_106 : decode cX0_init 106 = .ok (.putfield 40, 3) := by decide +kernel
theorem dX0_init_109 : decode cX0_init 109 = .ok (.aload_n 0, 1) := by decide +kernel
theorem dX0_init_110 : decode cX0_init 110 = .ok (.iconst 0, 1) := by decide +kernel
theorem dX0_init_111 : decode cX0_init 111 = .ok (.putfield 44, 3) := by decide +kernel
theorem dX0_init_114 : decode cX0_init 114 = .ok (.return_, 1) := by decide +kernel
set_option maxRecDepth 20000 in
theorem ggX0_point_X0_requirePhase : GoodIn wsX0_point wsX0_requirePhase := goodIn_ca (goodIn_r _ [10, 11, 12] (by decide +kernel) (by decide +kernel)) (goodIn_sub (fun _ h => List.mem_cons_of_mem _ (List.mem_append_right _ h)) (by decide +kernel))
set_option maxRecDepth 20000 in
theorem gX0_point_X0_requirePhase : GoodIn wsX0_point (va_wsS RX0 47 yX0_requirePhase wsX0_requirePhase) := goodIn_app (goodIn_of _ (by decide +kernel)) ggX0_point_X0_requirePhase
set_option maxRecDepth 20000 in
theorem ggX0_point_X0_requireWithin : GoodIn wsX0_point wsX0_requireWithin := goodIn_ca (goodIn_r _ [15, 11, 12] (by decide +kernel) (by decide +kernel)) (goodIn_sub (fun _ h => List.mem_cons_of_mem _ (List.mem_append_right _ h)) (by decide +kernel))
set_option maxRecDepth 20000 in
theorem gX0_point_X0_requireWithin : GoodIn wsX0_point (va_wsS RX0 51 yX0_requireWithin wsX0_requireWithin) := goodIn_app (goodIn_of _ (by decide +kernel)) ggX0_point_X0_requireWithin
theorem dX0_point_0 : decode cX0_point 0 = .ok (.iload_n 1, 1) := by decide +kernel
theorem dX0_point_1 : decode cX0_point 1 = .ok (.iconst 3, 1) := by decide +kernel
theorem dX0_point_2 : decode cX0_point 2 = .ok (.if_icmp .eq 7, 3) := by decide +kernel
theorem dX0_point_5 : decode cX0_point 5 = .ok (.iload_n 1, 1) := by decide +kernel
theorem dX0_point_6 : decode cX0_point 6 = .ok (.invokestatic 47, 3) := by decide +kernel
theorem dX0_point_9 : decode cX0_point 9 = .ok (.iload_n 2, 1) := by decide +kernel
theorem dX0_point_10 : decode cX0_point 10 = .ok (.bipush 6, 2) := by decide +kernel
theorem dX0_point_12 : decode cX0_point 12 = .ok (.bipush 32, 2) := by decide +kernel
theorem dX0_point_14 : decode cX0_point 14 = .ok (.invokestatic 51, 3) := by decide +kernel
theorem dX0_point_17 : decode cX0_point 17 = .ok (.aload_n 0, 1) := by decide +kernel
theorem dX0_point_18 : decode cX0_point 18 = .ok (.getfield 55, 3) := by decide +kernel
theorem dX0_point_21 : decode cX0_point 21 = .ok (.bipush 8, 2) := by decide +kernel
theorem dX0_point_23 : decode cX0_point 23 = .ok (.if_icmp .lt 13, 3) := by decide +kernel
theorem dX0_point_26 : decode cX0_point 26 = .ok (.new 58, 3) := by decide +kernel
theorem dX0_point_29 : decode cX0_point 29 = .ok (.dup, 1) := by decide +kernel
theorem dX0_point_30 : decode cX0_point 30 = .ok (.ldc 60, 2) := by decide +kernel
theorem dX0_point_32 : decode cX0_point 32 = .ok (.invokespecial 62, 3) := by decide +kernel
theorem dX0_point_35 : decode cX0_point 35 = .ok (.athrow, 1) := by decide +kernel
theorem dX0_point_36 : decode cX0_point 36 = .ok (.aload_n 0, 1) := by decide +kernel
theorem dX0_point_37 : decode cX0_point 37 = .ok (.getfield 55, 3) := by decide +kernel
theorem dX0_point_40 : decode cX0_point 40 = .ok (.istore_n 3, 1) := by decide +kernel
theorem dX0_point_41 : decode cX0_point 41 = .ok (.aload_n 0, 1) := by decide +kernel
theorem dX0_point_42 : decode cX0_point 42 = .ok (.getfield 9, 3) := by decide +kernel
theorem dX0_point_45 : decode cX0_point 45 = .ok (.iload_n 3, 1) := by decide +kernel
theorem dX0_point_46 : decode cX0_point 46 = .ok (.iload_n 1, 1) := by decide +kernel
theorem dX0_point_47 : decode cX0_point 47 = .ok (.iastore, 1) := by decide +kernel
theorem dX0_point_48 : decode cX0_point 48 = .ok (.aload_n 0, 1) := by decide +kernel
theorem dX0_point_49 : decode cX0_point 49 = .ok (.getfield 13, 3) := by decide +kernel
theorem dX0_point_52 : decode cX0_point 52 = .ok (.iload_n 3, 1) := by decide +kernel
theorem dX0_point_53 : decode cX0_point 53 = .ok (.iload_n 2, 1) := by decide +kernel
theorem dX0_point_54 : decode cX0_point 54 = .ok (.iastore, 1) := by decide +kernel
theorem dX0_point_55 : decode cX0_point 55 = .ok (.aload_n 0, 1) := by decide +kernel
theorem dX0_point_56 : decode cX0_point 56 = .ok (.getfield 16, 3) := by decide +kernel
theorem dX0_point_59 : decode cX0_point 59 = .ok (.iload_n 3, 1) := by decide +kernel
theorem dX0_point_60 : decode cX0_point 60 = .ok (.iconst (-1), 1) := by decide +kernel
theorem dX0_point_61 : decode cX0_point 61 = .ok (.iastore, 1) := by decide +kernel
theorem dX0_point_62 : decode cX0_point 62 = .ok (.aload_n 0, 1) := by decide +kernel
theorem dX0_point_63 : decode cX0_point 63 = .ok (.dup, 1) := by decide +kernel
theorem dX0_point_64 : decode cX0_point 64 = .ok (.getfield 55, 3) := by decide +kernel
theorem dX0_point_67 : decode cX0_point 67 = .ok (.iconst 1, 1) := by decide +kernel
theorem dX0_point_68 : decode cX0_point 68 = .ok (.iadd, 1) := by decide +kernel
theorem dX0_point_69 : decode cX0_point 69 = .ok (.putfield 55, 3) := by decide +kernel
theorem dX0_point_72 : decode cX0_point 72 = .ok (.iload_n 3, 1) := by decide +kernel
theorem dX0_point_73 : decode cX0_point 73 = .ok (.ireturn, 1) := by decide +kernel
set_option maxRecDepth 20000 in
theorem ggX0_fuse_X0_requirePhase : GoodIn wsX0_fuse wsX0_requirePhase := goodIn_ca (goodIn_r _ [5, 6, 7] (by decide +kernel) (by decide +kernel)) (goodIn_sub (fun _ h => List.mem_cons_of_mem _ (List.mem_append_right _ h)) (by decide +kernel))
set_option maxRecDepth 20000 in
theorem gX0_fuse_X0_requirePhase : GoodIn wsX0_fuse (va_wsS RX0 47 yX0_requirePhase wsX0_requirePhase) := goodIn_app (goodIn_of _ (by decide +kernel)) ggX0_fuse_X0_requirePhase
set_option maxRecDepth 20000 in
theorem ggX0_fuse_X0_requireWithin : GoodIn wsX0_fuse wsX0_requireWithin := goodIn_ca (goodIn_r _ [10, 6, 7] (by decide +kernel) (by decide +kernel)) (goodIn_sub (fun _ h => List.mem_cons_of_mem _ (List.mem_append_right _ h)) (by decide +kernel))
set_option maxRecDepth 20000 in
theorem gX0_fuse_X0_requireWithin : GoodIn wsX0_fuse (va_wsS RX0 51 yX0_requireWithin wsX0_requireWithin) := goodIn_app (goodIn_of _ (by decide +kernel)) ggX0_fuse_X0_requireWithin
theorem dX0_fuse_0 : decode cX0_fuse 0 = .ok (.iload_n 1, 1) := by decide +kernel
theorem dX0_fuse_1 : decode cX0_fuse 1 = .ok (.invokestatic 47, 3) := by decide +kernel
theorem dX0_fuse_4 : decode cX0_fuse 4 = .ok (.iload_n 2, 1) := by decide +kernel
theorem dX0_fuse_5 : decode cX0_fuse 5 = .ok (.iconst 0, 1) := by decide +kernel
theorem dX0_fuse_6 : decode cX0_fuse 6 = .ok (.bipush 100, 2) := by decide +kernel
theorem dX0_fuse_8 : decode cX0_fuse 8 = .ok (.invokestatic 51, 3) := by decide +kernel
theorem dX0_fuse_11 : decode cX0_fuse 11 = .ok (.aload_n 0, 1) := by decide +kernel
theorem dX0_fuse_12 : decode cX0_fuse 12 = .ok (.getfield 37, 3) := by decide +kernel
theorem dX0_fuse_15 : decode cX0_fuse 15 = .ok (.iload_n 1, 1) := by decide +kernel
theorem dX0_fuse_16 : decode cX0_fuse 16 = .ok (.iaload, 1) := by decide +kernel
theorem dX0_fuse_17 : decode cX0_fuse 17 = .ok (.istore_n 3, 1) := by decide +kernel
theorem dX0_fuse_18 : decode cX0_fuse 18 = .ok (.aload_n 0, 1) := by decide +kernel
theorem dX0_fuse_19 : decode cX0_fuse 19 = .ok (.getfield 37, 3) := by decide +kernel
theorem dX0_fuse_22 : decode cX0_fuse 22 = .ok (.iload_n 1, 1) := by decide +kernel
theorem dX0_fuse_23 : decode cX0_fuse 23 = .ok (.iload_n 2, 1) := by decide +kernel
theorem dX0_fuse_24 : decode cX0_fuse 24 = .ok (.iastore, 1) := by decide +kernel
theorem dX0_fuse_25 : decode cX0_fuse 25 = .ok (.iload_n 3, 1) := by decide +kernel
theorem dX0_fuse_26 : decode cX0_fuse 26 = .ok (.ireturn, 1) := by decide +kernel
set_option maxRecDepth 20000 in
theorem ggX0_balance_X0_requireWithin : GoodIn wsX0_balance wsX0_requireWithin := goodIn_ca (goodIn_r _ [5, 6, 7] (by decide +kernel) (by decide +kernel)) (goodIn_sub (fun _ h => List.mem_cons_of_mem _ (List.mem_append_right _ h)) (by decide +kernel))
set_option maxRecDepth 20000 in
theorem gX0_balance_X0_requireWithin : GoodIn wsX0_balance (va_wsS RX0 51 yX0_requireWithin wsX0_requireWithin) := goodIn_app (goodIn_of _ (by decide +kernel)) ggX0_balance_X0_requireWithin
theorem dX0_balance_0 : decode cX0_balance 0 = .ok (.iload_n 1, 1) := by decide +kernel
theorem dX0_balance_1 : decode cX0_balance 1 = .ok (.iconst 0, 1) := by decide +kernel
theorem dX0_balance_2 : decode cX0_balance 2 = .ok (.bipush 100, 2) := by decide +kernel
theorem dX0_balance_4 : decode cX0_balance 4 = .ok (.invokestatic 51, 3) := by decide +kernel
theorem dX0_balance_7 : decode cX0_balance 7 = .ok (.aload_n 0, 1) := by decide +kernel
theorem dX0_balance_8 : decode cX0_balance 8 = .ok (.getfield 40, 3) := by decide +kernel
theorem dX0_balance_11 : decode cX0_balance 11 = .ok (.istore_n 2, 1) := by decide +kernel
theorem dX0_balance_12 : decode cX0_balance 12 = .ok (.aload_n 0, 1) := by decide +kernel
theorem dX0_balance_13 : decode cX0_balance 13 = .ok (.iload_n 1, 1) := by decide +kernel
theorem dX0_balance_14 : decode cX0_balance 14 = .ok (.putfield 40, 3) := by decide +kernel
theorem dX0_balance_17 : decode cX0_balance 17 = .ok (.iload_n 2, 1) := by decide +kernel
theorem dX0_balance_18 : decode cX0_balance 18 = .ok (.ireturn, 1) := by decide +kernel
set_option maxRecDepth 20000 in
theorem ggX0_rule_X0_requireWithin : GoodIn wsX0_rule wsX0_requireWithin := goodIn_ca (goodIn_r _ [5, 6, 7] (by decide +kernel) (by decide +kernel)) (goodIn_sub (fun _ h => List.mem_cons_of_mem _ (List.mem_append_right _ h)) (by decide +kernel))
set_option maxRecDepth 20000 in
theorem gX0_rule_X0_requireWithin : GoodIn wsX0_rule (va_wsS RX0 51 yX0_requireWithin wsX0_requireWithin) := goodIn_app (goodIn_of _ (by decide +kernel)) ggX0_rule_X0_requireWithin
theorem dX0_rule_0 : decode cX0_rule 0 = .ok (.iload_n 1, 1) := by decide +kernel
theorem dX0_rule_1 : decode cX0_rule 1 = .ok (.iconst 0, 1) := by decide +kernel
theorem dX0_rule_2 : decode cX0_rule 2 = .ok (.iconst 1, 1) := by decide +kernel
theorem dX0_rule_3 : decode cX0_rule 3 = .ok (.invokestatic 51, 3) := by decide +kernel
theorem dX0_rule_6 : decode cX0_rule 6 = .ok (.aload_n 0, 1) := by decide +kernel
theorem dX0_rule_7 : decode cX0_rule 7 = .ok (.getfield 44, 3) := by decide +kernel
theorem dX0_rule_10 : decode cX0_rule 10 = .ok (.istore_n 2, 1) := by decide +kernel
theorem dX0_rule_11 : decode cX0_rule 11 = .ok (.aload_n 0, 1) := by decide +kernel
theorem dX0_rule_12 : decode cX0_rule 12 = .ok (.iload_n 1, 1) := by decide +kernel
theorem dX0_rule_13 : decode cX0_rule 13 = .ok (.putfield 44, 3) := by decide +kernel
theorem dX0_rule_16 : decode cX0_rule 16 = .ok (.iload_n 2, 1) := by decide +kernel
theorem dX0_rule_17 : decode cX0_rule 17 = .ok (.ireturn, 1) := by decide +kernel
set_option maxRecDepth 20000 in
theorem ggX0_plugIn_X0_requirePoint : GoodIn wsX0_plugIn wsX0_requirePoint := goodIn_ca (goodIn_r _ [11, 12, 13, 14, 52, 53, 54, 55, 56, 57, 58, 59, 60, 61, 62, 63, 64, 65, 66, 67] (by decide +kernel) (by decide +kernel)) (goodIn_sub (fun _ h => List.mem_cons_of_mem _ (List.mem_append_left _ (List.mem_append_right _ h))) (by decide +kernel))
set_option maxRecDepth 20000 in
theorem gX0_plugIn_X0_requirePoint : GoodIn wsX0_plugIn (wsV RX0 65 RX0 yX0_requirePoint wsX0_requirePoint) := goodIn_app (goodIn_of _ (by decide +kernel)) ggX0_plugIn_X0_requirePoint
set_option maxRecDepth 20000 in
theorem ggX0_plugIn_X0_requireWithin : GoodIn wsX0_plugIn wsX0_requireWithin := goodIn_ca (goodIn_r _ [17, 18, 19] (by decide +kernel) (by decide +kernel)) (goodIn_sub (fun _ h => List.mem_cons_of_mem _ (List.mem_append_right _ h)) (by decide +kernel))
set_option maxRecDepth 20000 in
theorem gX0_plugIn_X0_requireWithin : GoodIn wsX0_plugIn (va_wsS RX0 51 yX0_requireWithin wsX0_requireWithin) := goodIn_app (goodIn_of _ (by decide +kernel)) ggX0_plugIn_X0_requireWithin
set_option maxRecDepth 20000 in
theorem ggX0_plugIn_X0_hasCar : GoodIn wsX0_plugIn wsX0_hasCar := goodIn_r _ [23, 3, 52, 53, 54, 55, 56, 57, 58, 59, 60, 61, 62, 63, 64, 65, 66, 67] (by decide +kernel) (by decide +kernel)
set_option maxRecDepth 20000 in
theorem gX0_plugIn_X0_hasCar : GoodIn wsX0_plugIn (wsV RX0 68 RX0 yX0_hasCar wsX0_hasCar) := goodIn_app (goodIn_of _ (by decide +kernel)) ggX0_plugIn_X0_hasCar
set_option maxRecDepth 20000 in
theorem ggX0_plugIn_X0_laxityAt : GoodIn wsX0_plugIn wsX0_laxityAt := goodIn_r _ [27, 3, 28, 29, 30, 10, 31, 32, 4, 33, 34, 35, 36, 37, 38, 39, 40, 41, 42, 43, 44, 45, 5, 6, 46, 47, 48, 49, 50, 51, 52, 53, 54, 55, 56, 57, 58, 59, 60, 61, 62, 63, 64, 65, 66, 67] (by decide +kernel) (by decide +kernel)
set_option maxRecDepth 20000 in
theorem gX0_plugIn_X0_laxityAt : GoodIn wsX0_plugIn (wsV RX0 77 RX0 yX0_laxityAt wsX0_laxityAt) := goodIn_app (goodIn_of _ (by decide +kernel)) ggX0_plugIn_X0_laxityAt
theorem dX0_plugIn_0 : decode cX0_plugIn 0 = .ok (.aload_n 0, 1) := by decide +kernel
theorem dX0_plugIn_1 : decode cX0_plugIn 1 = .ok (.iload_n 1, 1) := by decide +kernel
theorem dX0_plugIn_2 : decode cX0_plugIn 2 = .ok (.invokevirtual 65, 3) := by decide +kernel
theorem dX0_plugIn_5 : decode cX0_plugIn 5 = .ok (.iload_n 2, 1) := by decide +kernel
theorem dX0_plugIn_6 : decode cX0_plugIn 6 = .ok (.iconst 1, 1) := by decide +kernel
theorem dX0_plugIn_7 : decode cX0_plugIn 7 = .ok (.sipush 5000, 3) := by decide +kernel
theorem dX0_plugIn_10 : decode cX0_plugIn 10 = .ok (.invokestatic 51, 3) := by decide +kernel
theorem dX0_plugIn_13 : decode cX0_plugIn 13 = .ok (.iload_n 3, 1) := by decide +kernel
theorem dX0_plugIn_14 : decode cX0_plugIn 14 = .ok (.iconst 1, 1) := by decide +kernel
theorem dX0_plugIn_15 : decode cX0_plugIn 15 = .ok (.bipush 32, 2) := by decide +kernel
theorem dX0_plugIn_17 : decode cX0_plugIn 17 = .ok (.invokestatic 51, 3) := by decide +kernel
theorem dX0_plugIn_20 : decode cX0_plugIn 20 = .ok (.iload 4, 2) := by decide +kernel
theorem dX0_plugIn_22 : decode cX0_plugIn 22 = .ok (.iconst 1, 1) := by decide +kernel
theorem dX0_plugIn_23 : decode cX0_plugIn 23 = .ok (.sipush 500, 3) := by decide +kernel
theorem dX0_plugIn_26 : decode cX0_plugIn 26 = .ok (.invokestatic 51, 3) := by decide +kernel
theorem dX0_plugIn_29 : decode cX0_plugIn 29 = .ok (.aload_n 0, 1) := by decide +kernel
theorem dX0_plugIn_30 : decode cX0_plugIn 30 = .ok (.iload_n 1, 1) := by decide +kernel
theorem dX0_plugIn_31 : decode cX0_plugIn 31 = .ok (.invokevirtual 68, 3) := by decide +kernel
theorem dX0_plugIn_34 : decode cX0_plugIn 34 = .ok (.ifCond .eq 13, 3) := by decide +kernel
theorem dX0_plugIn_37 : decode cX0_plugIn 37 = .ok (.new 58, 3) := by decide +kernel
theorem dX0_plugIn_40 : decode cX0_plugIn 40 = .ok (.dup, 1) := by decide +kernel
theorem dX0_plugIn_41 : decode cX0_plugIn 41 = .ok (.ldc 72, 2) := by decide +kernel
theorem dX0_plugIn_43 : decode cX0_plugIn 43 = .ok (.invokespecial 62, 3) := by decide +kernel
theorem dX0_plugIn_46 : decode cX0_plugIn 46 = .ok (.athrow, 1) := by decide +kernel
theorem dX0_plugIn_47 : decode cX0_plugIn 47 = .ok (.aload_n 0, 1) := by decide +kernel
theorem dX0_plugIn_48 : decode cX0_plugIn 48 = .ok (.getfield 16, 3) := by decide +kernel
theorem dX0_plugIn_51 : decode cX0_plugIn 51 = .ok (.iload_n 1, 1) := by decide +kernel
theorem dX0_plugIn_52 : decode cX0_plugIn 52 = .ok (.iload_n 2, 1) := by decide +kernel
theorem dX0_plugIn_53 : decode cX0_plugIn 53 = .ok (.iastore, 1) := by decide +kernel
theorem dX0_plugIn_54 : decode cX0_plugIn 54 = .ok (.aload_n 0, 1) := by decide +kernel
theorem dX0_plugIn_55 : decode cX0_plugIn 55 = .ok (.getfield 19, 3) := by decide +kernel
theorem dX0_plugIn_58 : decode cX0_plugIn 58 = .ok (.iload_n 1, 1) := by decide +kernel
theorem dX0_plugIn_59 : decode cX0_plugIn 59 = .ok (.iload_n 3, 1) := by decide +kernel
theorem dX0_plugIn_60 : decode cX0_plugIn 60 = .ok (.iastore, 1) := by decide +kernel
theorem dX0_plugIn_61 : decode cX0_plugIn 61 = .ok (.aload_n 0, 1) := by decide +kernel
theorem dX0_plugIn_62 : decode cX0_plugIn 62 = .ok (.getfield 22, 3) := by decide +kernel
theorem dX0_plugIn_65 : decode cX0_plugIn 65 = .ok (.iload_n 1, 1) := by decide +kernel
theorem dX0_plugIn_66 : decode cX0_plugIn 66 = .ok (.aload_n 0, 1) := by decide +kernel
theorem dX0_plugIn_67 : decode cX0_plugIn 67 = .ok (.getfield 74, 3) := by decide +kernel
theorem dX0_plugIn_70 : decode cX0_plugIn 70 = .ok (.iload 4, 2) := by decide +kernel
theorem dX0_plugIn_72 : decode cX0_plugIn 72 = .ok (.iadd, 1) := by decide +kernel
theorem dX0_plugIn_73 : decode cX0_plugIn 73 = .ok (.iastore, 1) := by decide +kernel
theorem dX0_plugIn_74 : decode cX0_plugIn 74 = .ok (.aload_n 0, 1) := by decide +kernel
theorem dX0_plugIn_75 : decode cX0_plugIn 75 = .ok (.iload_n 1, 1) := by decide +kernel
theorem dX0_plugIn_76 : decode cX0_plugIn 76 = .ok (.invokevirtual 77, 3) := by decide +kernel
theorem dX0_plugIn_79 : decode cX0_plugIn 79 = .ok (.ireturn, 1) := by decide +kernel
set_option maxRecDepth 20000 in
theorem ggX0_takeOut_X0_requirePoint : GoodIn wsX0_takeOut wsX0_requirePoint := goodIn_ca (goodIn_r _ [7, 8, 9, 10, 21, 22, 23, 24, 25, 26, 27, 28, 29, 30, 31, 32, 33, 34, 35, 36] (by decide +kernel) (by decide +kernel)) (goodIn_sub (fun _ h => List.mem_cons_of_mem _ (List.mem_append_left _ (List.mem_append_right _ h))) (by decide +kernel))
set_option maxRecDepth 20000 in
theorem gX0_takeOut_X0_requirePoint : GoodIn wsX0_takeOut (wsV RX0 65 RX0 yX0_requirePoint wsX0_requirePoint) := goodIn_app (goodIn_of _ (by decide +kernel)) ggX0_takeOut_X0_requirePoint
set_option maxRecDepth 20000 in
theorem ggX0_takeOut_X0_requireCar : GoodIn wsX0_takeOut wsX0_requireCar := goodIn_ca (goodIn_r _ [14, 15, 16, 17, 18, 19, 6, 20, 1, 21, 22, 23, 24, 25, 26, 27, 28, 29, 30, 31, 32, 33, 34, 35, 36] (by decide +kernel) (by decide +kernel)) (goodIn_sub (fun _ h => List.mem_cons_of_mem _ (List.mem_append_right _ h)) (by decide +kernel))
set_option maxRecDepth 20000 in
theorem gX0_takeOut_X0_requireCar : GoodIn wsX0_takeOut (wsV RX0 81 RX0 yX0_requireCar wsX0_requireCar) := goodIn_app (goodIn_of _ (by decide +kernel)) ggX0_takeOut_X0_requireCar
theorem dX0_takeOut_0 : decode cX0_takeOut 0 = .ok (.aload_n 0, 1) := by decide +kernel
theorem dX0_takeOut_1 : decode cX0_takeOut 1 = .ok (.iload_n 1, 1) := by decide +kernel
theorem dX0_takeOut_2 : decode cX0_takeOut 2 = .ok (.invokevirtual 65, 3) := by decide +kernel
theorem dX0_takeOut_5 : decode cX0_takeOut 5 = .ok (.aload_n 0, 1) := by decide +kernel
theorem dX0_takeOut_6 : decode cX0_takeOut 6 = .ok (.iload_n 1, 1) := by decide +kernel
theorem dX0_takeOut_7 : decode cX0_takeOut 7 = .ok (.invokevirtual 81, 3) := by decide +kernel
theorem dX0_takeOut_10 : decode cX0_takeOut 10 = .ok (.aload_n 0, 1) := by decide +kernel
theorem dX0_takeOut_11 : decode cX0_takeOut 11 = .ok (.getfield 16, 3) := by decide +kernel
theorem dX0_takeOut_14 : decode cX0_takeOut 14 = .ok (.iload_n 1, 1) := by decide +kernel
theorem dX0_takeOut_15 : decode cX0_takeOut 15 = .ok (.iaload, 1) := by decide +kernel
theorem dX0_takeOut_16 : decode cX0_takeOut 16 = .ok (.istore_n 2, 1) := by decide +kernel
theorem dX0_takeOut_17 : decode cX0_takeOut 17 = .ok (.iload_n 2, 1) := by decide +kernel
theorem dX0_takeOut_18 : decode cX0_takeOut 18 = .ok (.ifCond .ne 13, 3) := by decide +kernel
theorem dX0_takeOut_21 : decode cX0_takeOut 21 = .ok (.aload_n 0, 1) := by decide +kernel
theorem dX0_takeOut_22 : decode cX0_takeOut 22 = .ok (.dup, 1) := by decide +kernel
theorem dX0_takeOut_23 : decode cX0_takeOut 23 = .ok (.getfield 84, 3) := by decide +kernel
theorem dX0_takeOut_26 : decode cX0_takeOut 26 = .ok (.iconst 1, 1) := by decide +kernel
theorem dX0_takeOut_27 : decode cX0_takeOut 27 = .ok (.iadd, 1) := by decide +kernel
theorem dX0_takeOut_28 : decode cX0_takeOut 28 = .ok (.putfield 84, 3) := by decide +kernel
theorem dX0_takeOut_31 : decode cX0_takeOut 31 = .ok (.aload_n 0, 1) := by decide +kernel
theorem dX0_takeOut_32 : decode cX0_takeOut 32 = .ok (.getfield 16, 3) := by decide +kernel
theorem dX0_takeOut_35 : decode cX0_takeOut 35 = .ok (.iload_n 1, 1) := by decide +kernel
theorem dX0_takeOut_36 : decode cX0_takeOut 36 = .ok (.iconst (-1), 1) := by decide +kernel
theorem dX0_takeOut_37 : decode cX0_takeOut 37 = .ok (.iastore, 1) := by decide +kernel
theorem dX0_takeOut_38 : decode cX0_takeOut 38 = .ok (.iload_n 2, 1) := by decide +kernel
theorem dX0_takeOut_39 : decode cX0_takeOut 39 = .ok (.ireturn, 1) := by decide +kernel
set_option maxRecDepth 20000 in
theorem ggX0_appetite_X0_requirePoint : GoodIn wsX0_appetite wsX0_requirePoint := goodIn_ca (goodIn_r _ [6, 7, 8, 9, 26, 27, 28, 29, 30, 31, 32, 33, 34, 35, 36, 37, 38, 39, 40, 41] (by decide +kernel) (by decide +kernel)) (goodIn_sub (fun _ h => List.mem_cons_of_mem _ (List.mem_append_left _ (List.mem_append_left _ (List.mem_append_right _ h)))) (by decide +kernel))
set_option maxRecDepth 20000 in
theorem gX0_appetite_X0_requirePoint : GoodIn wsX0_appetite (wsV RX0 65 RX0 yX0_requirePoint wsX0_requirePoint) := goodIn_app (goodIn_of _ (by decide +kernel)) ggX0_appetite_X0_requirePoint
set_option maxRecDepth 20000 in
theorem ggX0_appetite_X0_requireWithin : GoodIn wsX0_appetite wsX0_requireWithin := goodIn_ca (goodIn_r _ [12, 13, 14] (by decide +kernel) (by decide +kernel)) (goodIn_sub (fun _ h => List.mem_cons_of_mem _ (List.mem_append_left _ (List.mem_append_right _ h))) (by decide +kernel))
set_option maxRecDepth 20000 in
theorem gX0_appetite_X0_requireWithin : GoodIn wsX0_appetite (va_wsS RX0 51 yX0_requireWithin wsX0_requireWithin) := goodIn_app (goodIn_of _ (by decide +kernel)) ggX0_appetite_X0_requireWithin
set_option maxRecDepth 20000 in
theorem ggX0_appetite_X0_requireCar : GoodIn wsX0_appetite wsX0_requireCar := goodIn_ca (goodIn_r _ [18, 19, 20, 21, 22, 23, 5, 24, 25, 26, 27, 28, 29, 30, 31, 32, 33, 34, 35, 36, 37, 38, 39, 40, 41] (by decide +kernel) (by decide +kernel)) (goodIn_sub (fun _ h => List.mem_cons_of_mem _ (List.mem_append_right _ h)) (by decide +kernel))
set_option maxRecDepth 20000 in
theorem gX0_appetite_X0_requireCar : GoodIn wsX0_appetite (wsV RX0 81 RX0 yX0_requireCar wsX0_requireCar) := goodIn_app (goodIn_of _ (by decide +kernel)) ggX0_appetite_X0_requireCar
theorem dX0_appetite_0 : decode cX0_appetite 0 = .ok (.aload_n 0, 1) := by decide +kernel
theorem dX0_appetite_1 : decode cX0_appetite 1 = .ok (.iload_n 1, 1) := by decide +kernel
theorem dX0_appetite_2 : decode cX0_appetite 2 = .ok (.invokevirtual 65, 3) := by decide +kernel
theorem dX0_appetite_5 : decode cX0_appetite 5 = .ok (.iload_n 2, 1) := by decide +kernel
theorem dX0_appetite_6 : decode cX0_appetite 6 = .ok (.iconst 1, 1) := by decide +kernel
theorem dX0_appetite_7 : decode cX0_appetite 7 = .ok (.bipush 32, 2) := by decide +kernel
theorem dX0_appetite_9 : decode cX0_appetite 9 = .ok (.invokestatic 51, 3) := by decide +kernel
theorem dX0_appetite_12 : decode cX0_appetite 12 = .ok (.aload_n 0, 1) := by decide +kernel
theorem dX0_appetite_13 : decode cX0_appetite 13 = .ok (.iload_n 1, 1) := by decide +kernel
theorem dX0_appetite_14 : decode cX0_appetite 14 = .ok (.invokevirtual 81, 3) := by decide +kernel
theorem dX0_appetite_17 : decode cX0_appetite 17 = .ok (.aload_n 0, 1) := by decide +kernel
theorem dX0_appetite_18 : decode cX0_appetite 18 = .ok (.getfield 19, 3) := by decide +kernel
theorem dX0_appetite_21 : decode cX0_appetite 21 = .ok (.iload_n 1, 1) := by decide +kernel
theorem dX0_appetite_22 : decode cX0_appetite 22 = .ok (.iaload, 1) := by decide +kernel
theorem dX0_appetite_23 : decode cX0_appetite 23 = .ok (.istore_n 3, 1) := by decide +kernel
theorem dX0_appetite_24 : decode cX0_appetite 24 = .ok (.aload_n 0, 1) := by decide +kernel
theorem dX0_appetite_25 : decode cX0_appetite 25 = .ok (.getfield 19, 3) := by decide +kernel
theorem dX0_appetite_28 : decode cX0_appetite 28 = .ok (.iload_n 1, 1) := by decide +kernel
theorem dX0_appetite_29 : decode cX0_appetite 29 = .ok (.iload_n 2, 1) := by decide +kernel
theorem dX0_appetite_30 : decode cX0_appetite 30 = .ok (.iastore, 1) := by decide +kernel
theorem dX0_appetite_31 : decode cX0_appetite 31 = .ok (.iload_n 3, 1) := by decide +kernel
theorem dX0_appetite_32 : decode cX0_appetite 32 = .ok (.ireturn, 1) := by decide +kernel
set_option maxRecDepth 20000 in
theorem ggX0_stay_X0_requirePoint : GoodIn wsX0_stay wsX0_requirePoint := goodIn_ca (goodIn_r _ [11, 12, 13, 14, 35, 36, 37, 38, 39, 40, 41, 42, 43, 44, 45, 46, 47, 48, 49, 50] (by decide +kernel) (by decide +kernel)) (goodIn_sub (fun _ h => List.mem_cons_of_mem _ (List.mem_append_left _ (List.mem_append_left _ (List.mem_append_right _ h)))) (by decide +kernel))
set_option maxRecDepth 20000 in
theorem gX0_stay_X0_requirePoint : GoodIn wsX0_stay (wsV RX0 65 RX0 yX0_requirePoint wsX0_requirePoint) := goodIn_app (goodIn_of _ (by decide +kernel)) ggX0_stay_X0_requirePoint
set_option maxRecDepth 20000 in
theorem ggX0_stay_X0_requireWithin : GoodIn wsX0_stay wsX0_requireWithin := goodIn_ca (goodIn_r _ [17, 18, 19] (by decide +kernel) (by decide +kernel)) (goodIn_sub (fun _ h => List.mem_cons_of_mem _ (List.mem_append_left _ (List.mem_append_right _ h))) (by decide +kernel))
set_option maxRecDepth 20000 in
theorem gX0_stay_X0_requireWithin : GoodIn wsX0_stay (va_wsS RX0 51 yX0_requireWithin wsX0_requireWithin) := goodIn_app (goodIn_of _ (by decide +kernel)) ggX0_stay_X0_requireWithin
set_option maxRecDepth 20000 in
theorem ggX0_stay_X0_requireCar : GoodIn wsX0_stay wsX0_requireCar := goodIn_ca (goodIn_r _ [23, 24, 25, 26, 27, 28, 10, 29, 30, 35, 36, 37, 38, 39, 40, 41, 42, 43, 44, 45, 46, 47, 48, 49, 50] (by decide +kernel) (by decide +kernel)) (goodIn_sub (fun _ h => List.mem_cons_of_mem _ (List.mem_append_right _ h)) (by decide +kernel))
set_option maxRecDepth 20000 in
theorem gX0_stay_X0_requireCar : GoodIn wsX0_stay (wsV RX0 81 RX0 yX0_requireCar wsX0_requireCar) := goodIn_app (goodIn_of _ (by decide +kernel)) ggX0_stay_X0_requireCar
set_option maxRecDepth 20000 in
theorem ggX0_stay_X0_stepsLeftAt : GoodIn wsX0_stay wsX0_stepsLeftAt := goodIn_r _ [34, 1, 2, 3, 4, 5, 6, 35, 36, 37, 38, 39, 40, 41, 42, 43, 44, 45, 46, 47, 48, 49, 50] (by decide +kernel) (by decide +kernel)
set_option maxRecDepth 20000 in
theorem gX0_stay_X0_stepsLeftAt : GoodIn wsX0_stay (wsV RX0 93 RX0 yX0_stepsLeftAt wsX0_stepsLeftAt) := goodIn_app (goodIn_of _ (by decide +kernel)) ggX0_stay_X0_stepsLeftAt
theorem dX0_stay_0 : decode cX0_stay 0 = .ok (.aload_n 0, 1) := by decide +kernel
theorem dX0_stay_1 : decode cX0_stay 1 = .ok (.iload_n 1, 1) := by decide +kernel
theorem dX0_stay_2 : decode cX0_stay 2 = .ok (.invokevirtual 65, 3) := by decide +kernel
theorem dX0_stay_5 : decode cX0_stay 5 = .ok (.iload_n 2, 1) := by decide +kernel
theorem dX0_stay_6 : decode cX0_stay 6 = .ok (.iconst 1, 1) := by decide +kernel
theorem dX0_stay_7 : decode cX0_stay 7 = .ok (.sipush 500, 3) := by decide +kernel
theorem dX0_stay_10 : decode cX0_stay 10 = .ok (.invokestatic 51, 3) := by decide +kernel
theorem dX0_stay_13 : decode cX0_stay 13 = .ok (.aload_n 0, 1) := by decide +kernel
theorem dX0_stay_14 : decode cX0_stay 14 = .ok (.iload_n 1, 1) := by decide +kernel
theorem dX0_stay_15 : decode cX0_stay 15 = .ok (.invokevirtual 81, 3) := by decide +kernel
theorem dX0_stay_18 : decode cX0_stay 18 = .ok (.aload_n 0, 1) := by decide +kernel
theorem dX0_stay_19 : decode cX0_stay 19 = .ok (.getfield 22, 3) := by decide +kernel
theorem dX0_stay_22 : decode cX0_stay 22 = .ok (.iload_n 1, 1) := by decide +kernel
theorem dX0_stay_23 : decode cX0_stay 23 = .ok (.aload_n 0, 1) := by decide +kernel
theorem dX0_stay_24 : decode cX0_stay 24 = .ok (.getfield 22, 3) := by decide +kernel
theorem dX0_stay_27 : decode cX0_stay 27 = .ok (.iload_n 1, 1) := by decide +kernel
theorem dX0_stay_28 : decode cX0_stay 28 = .ok (.iaload, 1) := by decide +kernel
theorem dX0_stay_29 : decode cX0_stay 29 = .ok (.aload_n 0, 1) := by decide +kernel
theorem dX0_stay_30 : decode cX0_stay 30 = .ok (.getfield 74, 3) := by decide +kernel
theorem dX0_stay_33 : decode cX0_stay 33 = .ok (.invokestatic 87, 3) := by decide +kernel
theorem dX0_stay_36 : decode cX0_stay 36 = .ok (.iload_n 2, 1) := by decide +kernel
theorem dX0_stay_37 : decode cX0_stay 37 = .ok (.iadd, 1) := by decide +kernel
theorem dX0_stay_38 : decode cX0_stay 38 = .ok (.iastore, 1) := by decide +kernel
theorem dX0_stay_39 : decode cX0_stay 39 = .ok (.aload_n 0, 1) := by decide +kernel
theorem dX0_stay_40 : decode cX0_stay 40 = .ok (.iload_n 1, 1) := by decide +kernel
theorem dX0_stay_41 : decode cX0_stay 41 = .ok (.invokevirtual 93, 3) := by decide +kernel
theorem dX0_stay_44 : decode cX0_stay 44 = .ok (.ireturn, 1) := by decide +kernel
set_option maxRecDepth 20000 in
theorem ggX0_step_X0_requireWithin : GoodIn wsX0_step wsX0_requireWithin := goodIn_ca (goodIn_r _ [6, 7, 8] (by decide +kernel) (by decide +kernel)) (goodIn_sub (fun _ h => List.mem_cons_of_mem _ (List.mem_append_right _ h)) (by decide +kernel))
set_option maxRecDepth 20000 in
theorem gX0_step_X0_requireWithin : GoodIn wsX0_step (va_wsS RX0 51 yX0_requireWithin wsX0_requireWithin) := goodIn_app (goodIn_of _ (by decide +kernel)) ggX0_step_X0_requireWithin
set_option maxRecDepth 20000 in
theorem ggX0_step_X0_shareCurrents : GoodIn wsX0_step wsX0_shareCurrents := goodIn_r _ [12, 13, 14, 15, 16, 5, 17, 18, 19, 20, 21, 22, 23, 24, 25, 26, 27, 28, 29, 30, 31, 32, 33, 34, 35, 2, 36, 37, 38, 39, 40, 41, 42, 43, 44, 45, 46, 47, 48, 49, 50, 51, 52, 53, 54, 55, 56, 57, 58, 59, 60, 61, 62, 63, 64, 65, 66, 67, 68, 69, 70, 71, 72, 73, 74, 75, 76, 77, 78, 79, 80, 81, 82, 83, 84, 85, 86, 87, 88, 89, 90, 91, 92, 93, 94, 95, 96, 97, 98, 99, 100, 101, 102, 103, 104, 105, 106, 107, 112, 113, 114, 115, 116, 117, 118, 119, 120, 121, 122, 123, 124, 125, 126, 127] (by decide +kernel) (by decide +kernel)
set_option maxRecDepth 20000 in
theorem gX0_step_X0_shareCurrents : GoodIn wsX0_step (wsV RX0 99 RX0 yX0_shareCurrents wsX0_shareCurrents) := goodIn_app (goodIn_of _ (by decide +kernel)) ggX0_step_X0_shareCurrents
set_option maxRecDepth 20000 in
theorem ggX0_step_X0_takeWhatIsGiven : GoodIn wsX0_step wsX0_takeWhatIsGiven := goodIn_r _ [111, 18, 19, 26, 27, 28, 29, 30, 1, 36, 37, 38, 5, 39, 40, 112, 113, 114, 115, 116, 117, 118, 119, 120, 121, 122, 123, 124, 125, 126, 127] (by decide +kernel) (by decide +kernel)
set_option maxRecDepth 20000 in
theorem gX0_step_X0_takeWhatIsGiven : GoodIn wsX0_step (wsV RX0 102 RX0 yX0_takeWhatIsGiven wsX0_takeWhatIsGiven) := goodIn_app (goodIn_of _ (by decide +kernel)) ggX0_step_X0_takeWhatIsGiven
theorem dX0_step_0 : decode cX0_step 0 = .ok (.iload_n 1, 1) := by decide +kernel
theorem dX0_step_1 : decode cX0_step 1 = .ok (.iconst 1, 1) := by decide +kernel
theorem dX0_step_2 : decode cX0_step 2 = .ok (.bipush 50, 2) := by decide +kernel
theorem dX0_step_4 : decode cX0_step 4 = .ok (.invokestatic 51, 3) := by decide +kernel
theorem dX0_step_7 : decode cX0_step 7 = .ok (.aload_n 0, 1) := by decide +kernel
theorem dX0_step_8 : decode cX0_step 8 = .ok (.getfield 96, 3) := by decide +kernel
theorem dX0_step_11 : decode cX0_step 11 = .ok (.istore_n 2, 1) := by decide +kernel
theorem dX0_step_12 : decode cX0_step 12 = .ok (.iconst 0, 1) := by decide +kernel
theorem dX0_step_13 : decode cX0_step 13 = .ok (.istore_n 3, 1) := by decide +kernel
theorem dX0_step_14 : decode cX0_step 14 = .ok (.iload_n 3, 1) := by decide +kernel
theorem dX0_step_15 : decode cX0_step 15 = .ok (.iload_n 1, 1) := by decide +kernel
theorem dX0_step_16 : decode cX0_step 16 = .ok (.if_icmp .ge 27, 3) := by decide +kernel
theorem dX0_step_19 : decode cX0_step 19 = .ok (.aload_n 0, 1) := by decide +kernel
theorem dX0_step_20 : decode cX0_step 20 = .ok (.invokevirtual 99, 3) := by decide +kernel
theorem dX0_step_23 : decode cX0_step 23 = .ok (.aload_n 0, 1) := by decide +kernel
theorem dX0_step_24 : decode cX0_step 24 = .ok (.invokevirtual 102, 3) := by decide +kernel
theorem dX0_step_27 : decode cX0_step 27 = .ok (.aload_n 0, 1) := by decide +kernel
theorem dX0_step_28 : decode cX0_step 28 = .ok (.dup, 1) := by decide +kernel
theorem dX0_step_29 : decode cX0_step 29 = .ok (.getfield 74, 3) := by decide +kernel
theorem dX0_step_32 : decode cX0_step 32 = .ok (.iconst 1, 1) := by decide +kernel
theorem dX0_step_33 : decode cX0_step 33 = .ok (.iadd, 1) := by decide +kernel
theorem dX0_step_34 : decode cX0_step 34 = .ok (.putfield 74, 3) := by decide +kernel
theorem dX0_step_37 : decode cX0_step 37 = .ok (.iinc 3 1, 3) := by decide +kernel
theorem dX0_step_40 : decode cX0_step 40 = .ok (.goto (-26), 3) := by decide +kernel
theorem dX0_step_43 : decode cX0_step 43 = .ok (.aload_n 0, 1) := by decide +kernel
theorem dX0_step_44 : decode cX0_step 44 = .ok (.getfield 96, 3) := by decide +kernel
theorem dX0_step_47 : decode cX0_step 47 = .ok (.iload_n 2, 1) := by decide +kernel
theorem dX0_step_48 : decode cX0_step 48 = .ok (.isub, 1) := by decide +kernel
theorem dX0_step_49 : decode cX0_step 49 = .ok (.ireturn, 1) := by decide +kernel
theorem dX0_time_0 : decode cX0_time 0 = .ok (.aload_n 0, 1) := by decide +kernel
theorem dX0_time_1 : decode cX0_time 1 = .ok (.getfield 74, 3) := by decide +kernel
theorem dX0_time_4 : decode cX0_time 4 = .ok (.ireturn, 1) := by decide +kernel
theorem dX0_points_0 : decode cX0_points 0 = .ok (.aload_n 0, 1) := by decide +kernel
theorem dX0_points_1 : decode cX0_points 1 = .ok (.getfield 55, 3) := by decide +kernel
theorem dX0_points_4 : decode cX0_points 4 = .ok (.ireturn, 1) := by decide +kernel
theorem dX0_taken_0 : decode cX0_taken 0 = .ok (.aload_n 0, 1) := by decide +kernel
theorem dX0_taken_1 : decode cX0_taken 1 = .ok (.getfield 96, 3) := by decide +kernel
theorem dX0_taken_4 : decode cX0_taken 4 = .ok (.ireturn, 1) := by decide +kernel
theorem dX0_served_0 : decode cX0_served 0 = .ok (.aload_n 0, 1) := by decide +kernel
theorem dX0_served_1 : decode cX0_served 1 = .ok (.getfield 84, 3) := by decide +kernel
theorem dX0_served_4 : decode cX0_served 4 = .ok (.ireturn, 1) := by decide +kernel
set_option maxRecDepth 20000 in
theorem ggX0_need_X0_requirePoint : GoodIn wsX0_need wsX0_requirePoint := goodIn_ca (goodIn_r _ [6, 7, 8, 9, 10, 11, 12, 13, 14, 15, 16, 17, 18, 19, 20, 21, 22, 23, 24, 25] (by decide +kernel) (by decide +kernel)) (goodIn_sub (fun _ h => List.mem_cons_of_mem _ (List.mem_append_right _ h)) (by decide +kernel))
set_option maxRecDepth 20000 in
theorem gX0_need_X0_requirePoint : GoodIn wsX0_need (wsV RX0 65 RX0 yX0_requirePoint wsX0_requirePoint) := goodIn_app (goodIn_of _ (by decide +kernel)) ggX0_need_X0_requirePoint
theorem dX0_need_0 : decode cX0_need 0 = .ok (.aload_n 0, 1) := by decide +kernel
theorem dX0_need_1 : decode cX0_need 1 = .ok (.iload_n 1, 1) := by decide +kernel
theorem dX0_need_2 : decode cX0_need 2 = .ok (.invokevirtual 65, 3) := by decide +kernel
theorem dX0_need_5 : decode cX0_need 5 = .ok (.aload_n 0, 1) := by decide +kernel
theorem dX0_need_6 : decode cX0_need 6 = .ok (.getfield 16, 3) := by decide +kernel
theorem dX0_need_9 : decode cX0_need 9 = .ok (.iload_n 1, 1) := by decide +kernel
theorem dX0_need_10 : decode cX0_need 10 = .ok (.iaload, 1) := by decide +kernel
theorem dX0_need_11 : decode cX0_need 11 = .ok (.ireturn, 1) := by decide +kernel
set_option maxRecDepth 20000 in
theorem ggX0_left_X0_requirePoint : GoodIn wsX0_left wsX0_requirePoint := goodIn_ca (goodIn_r _ [5, 6, 7, 8, 24, 25, 26, 27, 28, 29, 30, 31, 32, 33, 34, 35, 36, 37, 38, 39] (by decide +kernel) (by decide +kernel)) (goodIn_sub (fun _ h => List.mem_cons_of_mem _ (List.mem_append_right _ h)) (by decide +kernel))
set_option maxRecDepth 20000 in
theorem gX0_left_X0_requirePoint : GoodIn wsX0_left (wsV RX0 65 RX0 yX0_requirePoint wsX0_requirePoint) := goodIn_app (goodIn_of _ (by decide +kernel)) ggX0_left_X0_requirePoint
set_option maxRecDepth 20000 in
theorem ggX0_left_X0_hasCar : GoodIn wsX0_left wsX0_hasCar := goodIn_r _ [12, 13, 24, 25, 26, 27, 28, 29, 30, 31, 32, 33, 34, 35, 36, 37, 38, 39] (by decide +kernel) (by decide +kernel)
set_option maxRecDepth 20000 in
theorem gX0_left_X0_hasCar : GoodIn wsX0_left (wsV RX0 68 RX0 yX0_hasCar wsX0_hasCar) := goodIn_app (goodIn_of _ (by decide +kernel)) ggX0_left_X0_hasCar
set_option maxRecDepth 20000 in
theorem ggX0_left_X0_stepsLeftAt : GoodIn wsX0_left wsX0_stepsLeftAt := goodIn_r _ [17, 18, 19, 20, 21, 22, 23, 24, 25, 26, 27, 28, 29, 30, 31, 32, 33, 34, 35, 36, 37, 38, 39] (by decide +kernel) (by decide +kernel)
set_option maxRecDepth 20000 in
theorem gX0_left_X0_stepsLeftAt : GoodIn wsX0_left (wsV RX0 93 RX0 yX0_stepsLeftAt wsX0_stepsLeftAt) := goodIn_app (goodIn_of _ (by decide +kernel)) ggX0_left_X0_stepsLeftAt
theorem dX0_left_0 : decode cX0_left 0 = .ok (.aload_n 0, 1) := by decide +kernel
theorem dX0_left_1 : decode cX0_left 1 = .ok (.iload_n 1, 1) := by decide +kernel
theorem dX0_left_2 : decode cX0_left 2 = .ok (.invokevirtual 65, 3) := by decide +kernel
theorem dX0_left_5 : decode cX0_left 5 = .ok (.aload_n 0, 1) := by decide +kernel
theorem dX0_left_6 : decode cX0_left 6 = .ok (.iload_n 1, 1) := by decide +kernel
theorem dX0_left_7 : decode cX0_left 7 = .ok (.invokevirtual 68, 3) := by decide +kernel
theorem dX0_left_10 : decode cX0_left 10 = .ok (.ifCond .eq 11, 3) := by decide +kernel
theorem dX0_left_13 : decode cX0_left 13 = .ok (.aload_n 0, 1) := by decide +kernel
theorem dX0_left_14 : decode cX0_left 14 = .ok (.iload_n 1, 1) := by decide +kernel
theorem dX0_left_15 : decode cX0_left 15 = .ok (.invokevirtual 93, 3) := by decide +kernel
theorem dX0_left_18 : decode cX0_left 18 = .ok (.goto 4, 3) := by decide +kernel
theorem dX0_left_21 : decode cX0_left 21 = .ok (.iconst (-1), 1) := by decide +kernel
theorem dX0_left_22 : decode cX0_left 22 = .ok (.ireturn, 1) := by decide +kernel
set_option maxRecDepth 20000 in
theorem ggX0_laxity_X0_requirePoint : GoodIn wsX0_laxity wsX0_requirePoint := goodIn_ca (goodIn_r _ [5, 6, 7, 8, 51, 52, 53, 54, 55, 56, 57, 58, 59, 60, 61, 62, 63, 64, 65, 66] (by decide +kernel) (by decide +kernel)) (goodIn_sub (fun _ h => List.mem_cons_of_mem _ (List.mem_append_left _ (List.mem_append_right _ h))) (by decide +kernel))
set_option maxRecDepth 20000 in
theorem gX0_laxity_X0_requirePoint : GoodIn wsX0_laxity (wsV RX0 65 RX0 yX0_requirePoint wsX0_requirePoint) := goodIn_app (goodIn_of _ (by decide +kernel)) ggX0_laxity_X0_requirePoint
set_option maxRecDepth 20000 in
theorem ggX0_laxity_X0_requireCar : GoodIn wsX0_laxity wsX0_requireCar := goodIn_ca (goodIn_r _ [12, 13, 14, 15, 16, 17, 4, 18, 19, 51, 52, 53, 54, 55, 56, 57, 58, 59, 60, 61, 62, 63, 64, 65, 66] (by decide +kernel) (by decide +kernel)) (goodIn_sub (fun _ h => List.mem_cons_of_mem _ (List.mem_append_right _ h)) (by decide +kernel))
set_option maxRecDepth 20000 in
theorem gX0_laxity_X0_requireCar : GoodIn wsX0_laxity (wsV RX0 81 RX0 yX0_requireCar wsX0_requireCar) := goodIn_app (goodIn_of _ (by decide +kernel)) ggX0_laxity_X0_requireCar
set_option maxRecDepth 20000 in
theorem ggX0_laxity_X0_laxityAt : GoodIn wsX0_laxity wsX0_laxityAt := goodIn_r _ [23, 19, 24, 25, 26, 4, 27, 28, 29, 30, 31, 32, 33, 34, 35, 36, 37, 38, 39, 40, 41, 42, 43, 44, 45, 46, 47, 48, 49, 50, 51, 52, 53, 54, 55, 56, 57, 58, 59, 60, 61, 62, 63, 64, 65, 66] (by decide +kernel) (by decide +kernel)
set_option maxRecDepth 20000 in
theorem gX0_laxity_X0_laxityAt : GoodIn wsX0_laxity (wsV RX0 77 RX0 yX0_laxityAt wsX0_laxityAt) := goodIn_app (goodIn_of _ (by decide +kernel)) ggX0_laxity_X0_laxityAt
theorem dX0_laxity_0 : decode cX0_laxity 0 = .ok (.aload_n 0, 1) := by decide +kernel
theorem dX0_laxity_1 : decode cX0_laxity 1 = .ok (.iload_n 1, 1) := by decide +kernel
theorem dX0_laxity_2 : decode cX0_laxity 2 = .ok (.invokevirtual 65, 3) := by decide +kernel
theorem dX0_laxity_5 : decode cX0_laxity 5 = .ok (.aload_n 0, 1) := by decide +kernel
theorem dX0_laxity_6 : decode cX0_laxity 6 = .ok (.iload_n 1, 1) := by decide +kernel
theorem dX0_laxity_7 : decode cX0_laxity 7 = .ok (.invokevirtual 81, 3) := by decide +kernel
theorem dX0_laxity_10 : decode cX0_laxity 10 = .ok (.aload_n 0, 1) := by decide +kernel
theorem dX0_laxity_11 : decode cX0_laxity 11 = .ok (.iload_n 1, 1) := by decide +kernel
theorem dX0_laxity_12 : decode cX0_laxity 12 = .ok (.invokevirtual 77, 3) := by decide +kernel
theorem dX0_laxity_15 : decode cX0_laxity 15 = .ok (.ireturn, 1) := by decide +kernel
set_option maxRecDepth 20000 in
theorem ggX0_reach_X0_requirePoint : GoodIn wsX0_reach wsX0_requirePoint := goodIn_ca (goodIn_r _ [5, 6, 7, 8, 38, 39, 40, 41, 42, 43, 44, 45, 46, 47, 48, 49, 50, 51, 52, 53] (by decide +kernel) (by decide +kernel)) (goodIn_sub (fun _ h => List.mem_cons_of_mem _ (List.mem_append_right _ h)) (by decide +kernel))
set_option maxRecDepth 20000 in
theorem gX0_reach_X0_requirePoint : GoodIn wsX0_reach (wsV RX0 65 RX0 yX0_requirePoint wsX0_requirePoint) := goodIn_app (goodIn_of _ (by decide +kernel)) ggX0_reach_X0_requirePoint
set_option maxRecDepth 20000 in
theorem ggX0_reach_X0_reachAt : GoodIn wsX0_reach wsX0_reachAt := goodIn_r _ [12, 13, 14, 15, 16, 17, 18, 19, 20, 4, 21, 22, 23, 24, 25, 26, 27, 28, 29, 30, 31, 32, 33, 34, 35, 36, 37, 38, 39, 40, 41, 42, 43, 44, 45, 46, 47, 48, 49, 50, 51, 52, 53] (by decide +kernel) (by decide +kernel)
set_option maxRecDepth 20000 in
theorem gX0_reach_X0_reachAt : GoodIn wsX0_reach (wsV RX0 105 RX0 yX0_reachAt wsX0_reachAt) := goodIn_app (goodIn_of _ (by decide +kernel)) ggX0_reach_X0_reachAt
theorem dX0_reach_0 : decode cX0_reach 0 = .ok (.aload_n 0, 1) := by decide +kernel
theorem dX0_reach_1 : decode cX0_reach 1 = .ok (.iload_n 1, 1) := by decide +kernel
theorem dX0_reach_2 : decode cX0_reach 2 = .ok (.invokevirtual 65, 3) := by decide +kernel
theorem dX0_reach_5 : decode cX0_reach 5 = .ok (.aload_n 0, 1) := by decide +kernel
theorem dX0_reach_6 : decode cX0_reach 6 = .ok (.iload_n 1, 1) := by decide +kernel
theorem dX0_reach_7 : decode cX0_reach 7 = .ok (.invokevirtual 105, 3) := by decide +kernel
theorem dX0_reach_10 : decode cX0_reach 10 = .ok (.ireturn, 1) := by decide +kernel
set_option maxRecDepth 20000 in
theorem ggX0_current_X0_requirePoint : GoodIn wsX0_current wsX0_requirePoint := goodIn_ca (goodIn_r _ [6, 7, 8, 9, 108, 109, 110, 111, 112, 113, 114, 115, 116, 117, 118, 119, 120, 121, 122, 123] (by decide +kernel) (by decide +kernel)) (goodIn_sub (fun _ h => List.mem_cons_of_mem _ (List.mem_append_right _ h)) (by decide +kernel))
set_option maxRecDepth 20000 in
theorem gX0_current_X0_requirePoint : GoodIn wsX0_current (wsV RX0 65 RX0 yX0_requirePoint wsX0_requirePoint) := goodIn_app (goodIn_of _ (by decide +kernel)) ggX0_current_X0_requirePoint
set_option maxRecDepth 20000 in
theorem ggX0_current_X0_shareCurrents : GoodIn wsX0_current wsX0_shareCurrents := goodIn_r _ [13, 14, 15, 16, 17, 5, 18, 9, 1, 19, 20, 21, 22, 23, 24, 25, 26, 27, 28, 29, 30, 31, 32, 33, 34, 35, 36, 37, 38, 39, 40, 41, 42, 43, 44, 45, 46, 47, 48, 49, 50, 51, 52, 53, 54, 55, 56, 57, 58, 59, 60, 61, 62, 63, 64, 65, 66, 67, 68, 69, 70, 71, 72, 73, 74, 75, 76, 77, 78, 79, 80, 81, 82, 83, 84, 85, 86, 87, 88, 89, 90, 91, 92, 93, 94, 95, 96, 97, 98, 99, 100, 101, 102, 103, 104, 105, 106, 107, 108, 109, 110, 111, 112, 113, 114, 115, 116, 117, 118, 119, 120, 121, 122, 123] (by decide +kernel) (by decide +kernel)
set_option maxRecDepth 20000 in
theorem gX0_current_X0_shareCurrents : GoodIn wsX0_current (wsV RX0 99 RX0 yX0_shareCurrents wsX0_shareCurrents) := goodIn_app (goodIn_of _ (by decide +kernel)) ggX0_current_X0_shareCurrents
theorem dX0_current_0 : decode cX0_current 0 = .ok (.aload_n 0, 1) := by decide +kernel
theorem dX0_current_1 : decode cX0_current 1 = .ok (.iload_n 1, 1) := by decide +kernel
theorem dX0_current_2 : decode cX0_current 2 = .ok (.invokevirtual 65, 3) := by decide +kernel
theorem dX0_current_5 : decode cX0_current 5 = .ok (.aload_n 0, 1) := by decide +kernel
theorem dX0_current_6 : decode cX0_current 6 = .ok (.invokevirtual 99, 3) := by decide +kernel
theorem dX0_current_9 : decode cX0_current 9 = .ok (.aload_n 0, 1) := by decide +kernel
theorem dX0_current_10 : decode cX0_current 10 = .ok (.getfield 28, 3) := by decide +kernel
theorem dX0_current_13 : decode cX0_current 13 = .ok (.iload_n 1, 1) := by decide +kernel
theorem dX0_current_14 : decode cX0_current 14 = .ok (.iaload, 1) := by decide +kernel
theorem dX0_current_15 : decode cX0_current 15 = .ok (.ireturn, 1) := by decide +kernel
set_option maxRecDepth 20000 in
theorem ggX0_load_X0_requirePhase : GoodIn wsX0_load wsX0_requirePhase := goodIn_ca (goodIn_r _ [5, 6, 7] (by decide +kernel) (by decide +kernel)) (goodIn_sub (fun _ h => List.mem_cons_of_mem _ (List.mem_append_right _ h)) (by decide +kernel))
set_option maxRecDepth 20000 in
theorem gX0_load_X0_requirePhase : GoodIn wsX0_load (va_wsS RX0 47 yX0_requirePhase wsX0_requirePhase) := goodIn_app (goodIn_of _ (by decide +kernel)) ggX0_load_X0_requirePhase
set_option maxRecDepth 20000 in
theorem ggX0_load_X0_shareCurrents : GoodIn wsX0_load wsX0_shareCurrents := goodIn_r _ [11, 12, 13, 14, 15, 4, 16, 17, 18, 19, 1, 20, 21, 22, 23, 24, 25, 26, 27, 28, 29, 30, 31, 32, 33, 34, 35, 36, 37, 38, 39, 40, 41, 42, 43, 44, 45, 46, 47, 48, 49, 50, 51, 52, 53, 54, 55, 56, 57, 58, 59, 60, 61, 62, 63, 64, 65, 66, 67, 68, 69, 70, 71, 72, 73, 74, 75, 76, 77, 78, 79, 80, 81, 82, 83, 84, 85, 86, 87, 88, 89, 90, 91, 92, 93, 94, 95, 96, 97, 98, 99, 100, 101, 102, 103, 104, 105, 106, 107, 108, 109, 110, 111, 112, 113, 114, 115, 116, 117, 118, 119, 120, 121, 122] (by decide +kernel) (by decide +kernel)
set_option maxRecDepth 20000 in
theorem gX0_load_X0_shareCurrents : GoodIn wsX0_load (wsV RX0 99 RX0 yX0_shareCurrents wsX0_shareCurrents) := goodIn_app (goodIn_of _ (by decide +kernel)) ggX0_load_X0_shareCurrents
theorem dX0_load_0 : decode cX0_load 0 = .ok (.iload_n 1, 1) := by decide +kernel
theorem dX0_load_1 : decode cX0_load 1 = .ok (.invokestatic 47, 3) := by decide +kernel
theorem dX0_load_4 : decode cX0_load 4 = .ok (.aload_n 0, 1) := by decide +kernel
theorem dX0_load_5 : decode cX0_load 5 = .ok (.invokevirtual 99, 3) := by decide +kernel
theorem dX0_load_8 : decode cX0_load 8 = .ok (.aload_n 0, 1) := by decide +kernel
theorem dX0_load_9 : decode cX0_load 9 = .ok (.getfield 34, 3) := by decide +kernel
theorem dX0_load_12 : decode cX0_load 12 = .ok (.iload_n 1, 1) := by decide +kernel
theorem dX0_load_13 : decode cX0_load 13 = .ok (.iaload, 1) := by decide +kernel
theorem dX0_load_14 : decode cX0_load 14 = .ok (.ireturn, 1) := by decide +kernel
set_option maxRecDepth 20000 in
theorem ggX0_imbalance_X0_shareCurrents : GoodIn wsX0_imbalance wsX0_shareCurrents := goodIn_r _ [5, 6, 7, 8, 9, 4, 10, 11, 12, 13, 14, 15, 16, 17, 18, 19, 20, 21, 22, 23, 24, 25, 26, 27, 28, 29, 30, 31, 32, 33, 34, 35, 36, 37, 38, 39, 40, 41, 42, 43, 44, 45, 46, 47, 48, 49, 50, 51, 52, 53, 54, 55, 56, 57, 58, 59, 60, 61, 62, 63, 64, 65, 66, 67, 68, 69, 70, 71, 72, 73, 74, 75, 76, 77, 78, 79, 80, 81, 82, 83, 84, 85, 86, 87, 88, 89, 90, 91, 92, 93, 94, 95, 96, 97, 98, 99, 100, 101, 102, 103, 104, 105, 106, 107, 108, 109, 110, 111, 112, 113, 114, 115, 116, 117] (by decide +kernel) (by decide +kernel)
set_option maxRecDepth 20000 in
theorem gX0_imbalance_X0_shareCurrents : GoodIn wsX0_imbalance (wsV RX0 99 RX0 yX0_shareCurrents wsX0_shareCurrents) := goodIn_app (goodIn_of _ (by decide +kernel)) ggX0_imbalance_X0_shareCurrents
set_option maxRecDepth 20000 in
theorem ggX0_imbalance_X0_differenceOfLoads : GoodIn wsX0_imbalance wsX0_differenceOfLoads := goodIn_r _ [93, 14, 82, 83, 22, 84, 20, 21, 23, 102, 103, 104, 105, 106, 107, 108, 109, 110, 111, 112, 113, 114, 115, 116, 117] (by decide +kernel) (by decide +kernel)
set_option maxRecDepth 20000 in
theorem gX0_imbalance_X0_differenceOfLoads : GoodIn wsX0_imbalance (wsV RX0 108 RX0 yX0_differenceOfLoads wsX0_differenceOfLoads) := goodIn_app (goodIn_of _ (by decide +kernel)) ggX0_imbalance_X0_differenceOfLoads
theorem dX0_imbalance_0 : decode cX0_imbalance 0 = .ok (.aload_n 0, 1) := by decide +kernel
theorem dX0_imbalance_1 : decode cX0_imbalance 1 = .ok (.invokevirtual 99, 3) := by decide +kernel
theorem dX0_imbalance_4 : decode cX0_imbalance 4 = .ok (.aload_n 0, 1) := by decide +kernel
theorem dX0_imbalance_5 : decode cX0_imbalance 5 = .ok (.invokevirtual 108, 3) := by decide +kernel
theorem dX0_imbalance_8 : decode cX0_imbalance 8 = .ok (.ireturn, 1) := by decide +kernel
set_option maxRecDepth 20000 in
theorem ggX0_held_X0_shareCurrents : GoodIn wsX0_held wsX0_shareCurrents := goodIn_r _ [8, 9, 10, 11, 12, 7, 13, 1, 2, 3, 14, 15, 16, 17, 18, 19, 20, 21, 22, 23, 24, 25, 26, 27, 28, 29, 30, 31, 32, 33, 34, 35, 36, 37, 38, 39, 40, 41, 42, 43, 44, 45, 46, 47, 48, 49, 50, 51, 52, 53, 54, 55, 56, 57, 58, 59, 60, 61, 62, 63, 64, 65, 66, 67, 68, 69, 70, 71, 72, 73, 74, 75, 76, 77, 78, 79, 80, 81, 82, 83, 84, 85, 86, 87, 88, 89, 90, 91, 92, 93, 94, 95, 96, 97, 98, 99, 100, 101, 102, 103, 104, 105, 106, 107, 108, 109, 110, 111, 112, 113, 114, 115, 116, 117] (by decide +kernel) (by decide +kernel)
set_option maxRecDepth 20000 in
theorem gX0_held_X0_shareCurrents : GoodIn wsX0_held (wsV RX0 99 RX0 yX0_shareCurrents wsX0_shareCurrents) := goodIn_app (goodIn_of _ (by decide +kernel)) ggX0_held_X0_shareCurrents
theorem dX0_held_0 : decode cX0_held 0 = .ok (.aload_n 0, 1) := by decide +kernel
theorem dX0_held_1 : decode cX0_held 1 = .ok (.invokevirtual 99, 3) := by decide +kernel
theorem dX0_held_4 : decode cX0_held 4 = .ok (.iconst 0, 1) := by decide +kernel
theorem dX0_held_5 : decode cX0_held 5 = .ok (.istore_n 1, 1) := by decide +kernel
theorem dX0_held_6 : decode cX0_held 6 = .ok (.iconst 0, 1) := by decide +kernel
theorem dX0_held_7 : decode cX0_held 7 = .ok (.istore_n 2, 1) := by decide +kernel
theorem dX0_held_8 : decode cX0_held 8 = .ok (.iload_n 2, 1) := by decide +kernel
theorem dX0_held_9 : decode cX0_held 9 = .ok (.aload_n 0, 1) := by decide +kernel
theorem dX0_held_10 : decode cX0_held 10 = .ok (.getfield 55, 3) := by decide +kernel
theorem dX0_held_13 : decode cX0_held 13 = .ok (.if_icmp .ge 30, 3) := by decide +kernel
theorem dX0_held_16 : decode cX0_held 16 = .ok (.aload_n 0, 1) := by decide +kernel
theorem dX0_held_17 : decode cX0_held 17 = .ok (.getfield 28, 3) := by decide +kernel
theorem dX0_held_20 : decode cX0_held 20 = .ok (.iload_n 2, 1) := by decide +kernel
theorem dX0_held_21 : decode cX0_held 21 = .ok (.iaload, 1) := by decide +kernel
theorem dX0_held_22 : decode cX0_held 22 = .ok (.aload_n 0, 1) := by decide +kernel
theorem dX0_held_23 : decode cX0_held 23 = .ok (.getfield 25, 3) := by decide +kernel
theorem dX0_held_26 : decode cX0_held 26 = .ok (.iload_n 2, 1) := by decide +kernel
theorem dX0_held_27 : decode cX0_held 27 = .ok (.iaload, 1) := by decide +kernel
theorem dX0_held_28 : decode cX0_held 28 = .ok (.if_icmp .ge 9, 3) := by decide +kernel
theorem dX0_held_31 : decode cX0_held 31 = .ok (.iload_n 1, 1) := by decide +kernel
theorem dX0_held_32 : decode cX0_held 32 = .ok (.iconst 1, 1) := by decide +kernel
theorem dX0_held_33 : decode cX0_held 33 = .ok (.iload_n 2, 1) := by decide +kernel
theorem dX0_held_34 : decode cX0_held 34 = .ok (.ishl, 1) := by decide +kernel
theorem dX0_held_35 : decode cX0_held 35 = .ok (.ior, 1) := by decide +kernel
theorem dX0_held_36 : decode cX0_held 36 = .ok (.istore_n 1, 1) := by decide +kernel
theorem dX0_held_37 : decode cX0_held 37 = .ok (.iinc 2 1, 3) := by decide +kernel
theorem dX0_held_40 : decode cX0_held 40 = .ok (.goto (-32), 3) := by decide +kernel
theorem dX0_held_43 : decode cX0_held 43 = .ok (.iload_n 1, 1) := by decide +kernel
theorem dX0_held_44 : decode cX0_held 44 = .ok (.ireturn, 1) := by decide +kernel
set_option maxRecDepth 20000 in
theorem ggX0_fairLevel_X0_requirePhase : GoodIn wsX0_fairLevel wsX0_requirePhase := goodIn_ca (goodIn_r _ [5, 6, 7] (by decide +kernel) (by decide +kernel)) (goodIn_sub (fun _ h => List.mem_cons_of_mem _ (List.mem_append_right _ h)) (by decide +kernel))
set_option maxRecDepth 20000 in
theorem gX0_fairLevel_X0_requirePhase : GoodIn wsX0_fairLevel (va_wsS RX0 47 yX0_requirePhase wsX0_requirePhase) := goodIn_app (goodIn_of _ (by decide +kernel)) ggX0_fairLevel_X0_requirePhase
set_option maxRecDepth 20000 in
theorem ggX0_fairLevel_X0_shareCurrents : GoodIn wsX0_fairLevel wsX0_shareCurrents := goodIn_r _ [11, 12, 13, 14, 15, 4, 16, 17, 18, 19, 20, 21, 22, 23, 24, 25, 26, 27, 28, 29, 30, 31, 32, 33, 34, 35, 36, 37, 38, 39, 40, 41, 42, 43, 44, 45, 46, 47, 48, 49, 50, 51, 52, 53, 54, 55, 56, 57, 58, 59, 60, 61, 1, 62, 63, 64, 65, 66, 67, 68, 69, 70, 71, 72, 73, 74, 75, 76, 77, 78, 79, 80, 81, 82, 83, 84, 85, 86, 87, 88, 89, 90, 91, 92, 93, 94, 95, 96, 97, 98, 99, 100, 101, 102, 103, 104, 105, 106, 115, 116, 117, 118, 119, 120, 121, 122, 123, 124, 125, 126, 127, 128, 129, 130] (by decide +kernel) (by decide +kernel)
set_option maxRecDepth 20000 in
theorem gX0_fairLevel_X0_shareCurrents : GoodIn wsX0_fairLevel (wsV RX0 99 RX0 yX0_shareCurrents wsX0_shareCurrents) := goodIn_app (goodIn_of _ (by decide +kernel)) ggX0_fairLevel_X0_shareCurrents
set_option maxRecDepth 20000 in
theorem ggX0_fairLevel_X0_givenAtAllPhases : GoodIn wsX0_fairLevel wsX0_givenAtAllPhases := goodIn_r _ [110, 17, 40, 18, 115, 116, 117, 118, 119, 120, 121, 122, 123, 124, 125, 126, 127, 128, 129, 130] (by decide +kernel) (by decide +kernel)
set_option maxRecDepth 20000 in
theorem gX0_fairLevel_X0_givenAtAllPhases : GoodIn wsX0_fairLevel (wsV RX0 112 RX0 yX0_givenAtAllPhases wsX0_givenAtAllPhases) := goodIn_app (goodIn_of _ (by decide +kernel)) ggX0_fairLevel_X0_givenAtAllPhases
set_option maxRecDepth 20000 in
theorem ggX0_fairLevel_X0_usedAtLevel : GoodIn wsX0_fairLevel wsX0_usedAtLevel := goodIn_r _ [114, 17, 40, 19, 26, 27, 28, 29, 115, 116, 117, 118, 119, 120, 121, 122, 123, 124, 125, 126, 127, 128, 129, 130] (by decide +kernel) (by decide +kernel)
set_option maxRecDepth 20000 in
theorem gX0_fairLevel_X0_usedAtLevel : GoodIn wsX0_fairLevel (wsV RX0 115 RX0 yX0_usedAtLevel wsX0_usedAtLevel) := goodIn_app (goodIn_of _ (by decide +kernel)) ggX0_fairLevel_X0_usedAtLevel
theorem dX0_fairLevel_0 : decode cX0_fairLevel 0 = .ok (.iload_n 1, 1) := by decide +kernel
theorem dX0_fairLevel_1 : decode cX0_fairLevel 1 = .ok (.invokestatic 47, 3) := by decide +kernel
theorem dX0_fairLevel_4 : decode cX0_fairLevel 4 = .ok (.aload_n 0, 1) := by decide +kernel
theorem dX0_fairLevel_5 : decode cX0_fairLevel 5 = .ok (.invokevirtual 99, 3) := by decide +kernel
theorem dX0_fairLevel_8 : decode cX0_fairLevel 8 = .ok (.aload_n 0, 1) := by decide +kernel
theorem dX0_fairLevel_9 : decode cX0_fairLevel 9 = .ok (.getfield 37, 3) := by decide +kernel
theorem dX0_fairLevel_12 : decode cX0_fairLevel 12 = .ok (.iload_n 1, 1) := by decide +kernel
theorem dX0_fairLevel_13 : decode cX0_fairLevel 13 = .ok (.iaload, 1) := by decide +kernel
theorem dX0_fairLevel_14 : decode cX0_fairLevel 14 = .ok (.aload_n 0, 1) := by decide +kernel
theorem dX0_fairLevel_15 : decode cX0_fairLevel 15 = .ok (.invokevirtual 112, 3) := by decide +kernel
theorem dX0_fairLevel_18 : decode cX0_fairLevel 18 = .ok (.isub, 1) := by decide +kernel
theorem dX0_fairLevel_19 : decode cX0_fairLevel 19 = .ok (.istore_n 2, 1) := by decide +kernel
theorem dX0_fairLevel_20 : decode cX0_fairLevel 20 = .ok (.iconst 0, 1) := by decide +kernel
theorem dX0_fairLevel_21 : decode cX0_fairLevel 21 = .ok (.istore_n 3, 1) := by decide +kernel
theorem dX0_fairLevel_22 : decode cX0_fairLevel 22 = .ok (.iload_n 3, 1) := by decide +kernel
theorem dX0_fairLevel_23 : decode cX0_fairLevel 23 = .ok (.bipush 32, 2) := by decide +kernel
theorem dX0_fairLevel_25 : decode cX0_fairLevel 25 = .ok (.if_icmp .ge 62, 3) := by decide +kernel
theorem dX0_fairLevel_28 : decode cX0_fairLevel 28 = .ok (.aload_n 0, 1) := by decide +kernel
theorem dX0_fairLevel_29 : decode cX0_fairLevel 29 = .ok (.iload_n 1, 1) := by decide +kernel
theorem dX0_fairLevel_30 : decode cX0_fairLevel 30 = .ok (.iload_n 3, 1) := by decide +kernel
theorem dX0_fairLevel_31 : decode cX0_fairLevel 31 = .ok (.invokevirtual 115, 3) := by decide +kernel
theorem dX0_fairLevel_34 : decode cX0_fairLevel 34 = .ok (.istore 4, 2) := by decide +kernel
theorem dX0_fairLevel_36 : decode cX0_fairLevel 36 = .ok (.aload_n 0, 1) := by decide +kernel
theorem dX0_fairLevel_37 : decode cX0_fairLevel 37 = .ok (.iload_n 1, 1) := by decide +kernel
theorem dX0_fairLevel_38 : decode cX0_fairLevel 38 = .ok (.iload_n 3, 1) := by decide +kernel
theorem dX0_fairLevel_39 : decode cX0_fairLevel 39 = .ok (.iconst 1, 1) := by decide +kernel
theorem dX0_fairLevel_40 : decode cX0_fairLevel 40 = .ok (.iadd, 1) := by decide +kernel
theorem dX0_fairLevel_41 : decode cX0_fairLevel 41 = .ok (.invokevirtual 115, 3) := by decide +kernel
theorem dX0_fairLevel_44 : decode cX0_fairLevel 44 = .ok (.iload 4, 2) := by decide +kernel
theorem dX0_fairLevel_46 : decode cX0_fairLevel 46 = .ok (.isub, 1) := by decide +kernel
theorem dX0_fairLevel_47 : decode cX0_fairLevel 47 = .ok (.istore 5, 2) := by decide +kernel
theorem dX0_fairLevel_49 : decode cX0_fairLevel 49 = .ok (.iload 5, 2) := by decide +kernel
theorem dX0_fairLevel_51 : decode cX0_fairLevel 51 = .ok (.ifCond .le 30, 3) := by decide +kernel
theorem dX0_fairLevel_54 : decode cX0_fairLevel 54 = .ok (.iload 4, 2) := by decide +kernel
theorem dX0_fairLevel_56 : decode cX0_fairLevel 56 = .ok (.iload 5, 2) := by decide +kernel
theorem dX0_fairLevel_58 : decode cX0_fairLevel 58 = .ok (.iadd, 1) := by decide +kernel
theorem dX0_fairLevel_59 : decode cX0_fairLevel 59 = .ok (.iload_n 2, 1) := by decide +kernel
theorem dX0_fairLevel_60 : decode cX0_fairLevel 60 = .ok (.if_icmp .le 21, 3) := by decide +kernel
theorem dX0_fairLevel_63 : decode cX0_fairLevel 63 = .ok (.sipush 1000, 3) := by decide +kernel
theorem dX0_fairLevel_66 : decode cX0_fairLevel 66 = .ok (.iload_n 3, 1) := by decide +kernel
theorem dX0_fairLevel_67 : decode cX0_fairLevel 67 = .ok (.imul, 1) := by decide +kernel
theorem dX0_fairLevel_68 : decode cX0_fairLevel 68 = .ok (.sipush 1000, 3) := by decide +kernel
theorem dX0_fairLevel_71 : decode cX0_fairLevel 71 = .ok (.iload_n 2, 1) := by decide +kernel
theorem dX0_fairLevel_72 : decode cX0_fairLevel 72 = .ok (.iload 4, 2) := by decide +kernel
theorem dX0_fairLevel_74 : decode cX0_fairLevel 74 = .ok (.isub, 1) := by decide +kernel
theorem dX0_fairLevel_75 : decode cX0_fairLevel 75 = .ok (.imul, 1) := by decide +kernel
theorem dX0_fairLevel_76 : decode cX0_fairLevel 76 = .ok (.iload 5, 2) := by decide +kernel
theorem dX0_fairLevel_78 : decode cX0_fairLevel 78 = .ok (.idiv, 1) := by decide +kernel
theorem dX0_fairLevel_79 : decode cX0_fairLevel 79 = .ok (.iadd, 1) := by decide +kernel
theorem dX0_fairLevel_80 : decode cX0_fairLevel 80 = .ok (.ireturn, 1) := by decide +kernel
theorem dX0_fairLevel_81 : decode cX0_fairLevel 81 = .ok (.iinc 3 1, 3) := by decide +kernel
theorem dX0_fairLevel_84 : decode cX0_fairLevel 84 = .ok (.goto (-62), 3) := by decide +kernel
theorem dX0_fairLevel_87 : decode cX0_fairLevel 87 = .ok (.iconst (-1), 1) := by decide +kernel
theorem dX0_fairLevel_88 : decode cX0_fairLevel 88 = .ok (.ireturn, 1) := by decide +kernel
set_option maxRecDepth 20000 in
theorem ggX0_canBeReady_X0_laxityAt : GoodIn wsX0_canBeReady wsX0_laxityAt := goodIn_r _ [7, 2, 8, 9, 10, 6, 11, 12, 13, 14, 15, 16, 17, 18, 19, 20, 21, 22, 23, 24, 25, 26, 27, 28, 29, 30, 31, 32, 33, 34, 35, 36, 37, 38, 39, 40, 41, 42, 43, 44, 45, 46, 47, 48, 49, 50] (by decide +kernel) (by decide +kernel)
set_option maxRecDepth 20000 in
theorem gX0_canBeReady_X0_laxityAt : GoodIn wsX0_canBeReady (wsV RX0 77 RX0 yX0_laxityAt wsX0_laxityAt) := goodIn_app (goodIn_of _ (by decide +kernel)) ggX0_canBeReady_X0_laxityAt
theorem dX0_canBeReady_0 : decode cX0_canBeReady 0 = .ok (.iconst 0, 1) := by decide +kernel
theorem dX0_canBeReady_1 : decode cX0_canBeReady 1 = .ok (.istore_n 1, 1) := by decide +kernel
theorem dX0_canBeReady_2 : decode cX0_canBeReady 2 = .ok (.iload_n 1, 1) := by decide +kernel
theorem dX0_canBeReady_3 : decode cX0_canBeReady 3 = .ok (.aload_n 0, 1) := by decide +kernel
theorem dX0_canBeReady_4 : decode cX0_canBeReady 4 = .ok (.getfield 55, 3) := by decide +kernel
theorem dX0_canBeReady_7 : decode cX0_canBeReady 7 = .ok (.if_icmp .ge 28, 3) := by decide +kernel
theorem dX0_canBeReady_10 : decode cX0_canBeReady 10 = .ok (.aload_n 0, 1) := by decide +kernel
theorem dX0_canBeReady_11 : decode cX0_canBeReady 11 = .ok (.getfield 16, 3) := by decide +kernel
theorem dX0_canBeReady_14 : decode cX0_canBeReady 14 = .ok (.iload_n 1, 1) := by decide +kernel
theorem dX0_canBeReady_15 : decode cX0_canBeReady 15 = .ok (.iaload, 1) := by decide +kernel
theorem dX0_canBeReady_16 : decode cX0_canBeReady 16 = .ok (.ifCond .le 13, 3) := by decide +kernel
theorem dX0_canBeReady_19 : decode cX0_canBeReady 19 = .ok (.aload_n 0, 1) := by decide +kernel
theorem dX0_canBeReady_20 : decode cX0_canBeReady 20 = .ok (.iload_n 1, 1) := by decide +kernel
theorem dX0_canBeReady_21 : decode cX0_canBeReady 21 = .ok (.invokevirtual 77, 3) := by decide +kernel
theorem dX0_canBeReady_24 : decode cX0_canBeReady 24 = .ok (.ifCond .ge 5, 3) := by decide +kernel
theorem dX0_canBeReady_27 : decode cX0_canBeReady 27 = .ok (.iconst 0, 1) := by decide +kernel
theorem dX0_canBeReady_28 : decode cX0_canBeReady 28 = .ok (.ireturn, 1) := by decide +kernel
theorem dX0_canBeReady_29 : decode cX0_canBeReady 29 = .ok (.iinc 1 1, 3) := by decide +kernel
theorem dX0_canBeReady_32 : decode cX0_canBeReady 32 = .ok (.goto (-30), 3) := by decide +kernel
theorem dX0_canBeReady_35 : decode cX0_canBeReady 35 = .ok (.iconst 1, 1) := by decide +kernel
theorem dX0_canBeReady_36 : decode cX0_canBeReady 36 = .ok (.ireturn, 1) := by decide +kernel
theorem dX0_requireWithin_0 : decode cX0_requireWithin 0 = .ok (.iload_n 0, 1) := by decide +kernel
theorem dX0_requireWithin_1 : decode cX0_requireWithin 1 = .ok (.iload_n 1, 1) := by decide +kernel
theorem dX0_requireWithin_2 : decode cX0_requireWithin 2 = .ok (.if_icmp .lt 8, 3) := by decide +kernel
theorem dX0_requireWithin_5 : decode cX0_requireWithin 5 = .ok (.iload_n 0, 1) := by decide +kernel
theorem dX0_requireWithin_6 : decode cX0_requireWithin 6 = .ok (.iload_n 2, 1) := by decide +kernel
theorem dX0_requireWithin_7 : decode cX0_requireWithin 7 = .ok (.if_icmp .le 13, 3) := by decide +kernel
theorem dX0_requireWithin_10 : decode cX0_requireWithin 10 = .ok (.new 118, 3) := by decide +kernel
theorem dX0_requireWithin_13 : decode cX0_requireWithin 13 = .ok (.dup, 1) := by decide +kernel
theorem dX0_requireWithin_14 : decode cX0_requireWithin 14 = .ok (.ldc 120, 2) := by decide +kernel
theorem dX0_requireWithin_16 : decode cX0_requireWithin 16 = .ok (.invokespecial 122, 3) := by decide +kernel
theorem dX0_requireWithin_19 : decode cX0_requireWithin 19 = .ok (.athrow, 1) := by decide +kernel
theorem dX0_requireWithin_20 : decode cX0_requireWithin 20 = .ok (.return_, 1) := by decide +kernel
theorem dX0_requirePhase_0 : decode cX0_requirePhase 0 = .ok (.iload_n 0, 1) := by decide +kernel
theorem dX0_requirePhase_1 : decode cX0_requirePhase 1 = .ok (.ifCond .lt 8, 3) := by decide +kernel
theorem dX0_requirePhase_4 : decode cX0_requirePhase 4 = .ok (.iload_n 0, 1) := by decide +kernel
theorem dX0_requirePhase_5 : decode cX0_requirePhase 5 = .ok (.iconst 3, 1) := by decide +kernel
theorem dX0_requirePhase_6 : decode cX0_requirePhase 6 = .ok (.if_icmp .lt 13, 3) := by decide +kernel
theorem dX0_requirePhase_9 : decode cX0_requirePhase 9 = .ok (.new 118, 3) := by decide +kernel
theorem dX0_requirePhase_12 : decode cX0_requirePhase 12 = .ok (.dup, 1) := by decide +kernel
theorem dX0_requirePhase_13 : decode cX0_requirePhase 13 = .ok (.ldc 123, 2) := by decide +kernel
theorem dX0_requirePhase_15 : decode cX0_requirePhase 15 = .ok (.invokespecial 122, 3) := by decide +kernel
theorem dX0_requirePhase_18 : decode cX0_requirePhase 18 = .ok (.athrow, 1) := by decide +kernel
theorem dX0_requirePhase_19 : decode cX0_requirePhase 19 = .ok (.return_, 1) := by decide +kernel
theorem dX0_requirePoint_0 : decode cX0_requirePoint 0 = .ok (.iload_n 1, 1) := by decide +kernel
theorem dX0_requirePoint_1 : decode cX0_requirePoint 1 = .ok (.ifCond .lt 11, 3) := by decide +kernel
theorem dX0_requirePoint_4 : decode cX0_requirePoint 4 = .ok (.iload_n 1, 1) := by decide +kernel
theorem dX0_requirePoint_5 : decode cX0_requirePoint 5 = .ok (.aload_n 0, 1) := by decide +kernel
theorem dX0_requirePoint_6 : decode cX0_requirePoint 6 = .ok (.getfield 55, 3) := by decide +kernel
theorem dX0_requirePoint_9 : decode cX0_requirePoint 9 = .ok (.if_icmp .lt 13, 3) := by decide +kernel
theorem dX0_requirePoint_12 : decode cX0_requirePoint 12 = .ok (.new 125, 3) := by decide +kernel
theorem dX0_requirePoint_15 : decode cX0_requirePoint 15 = .ok (.dup, 1) := by decide +kernel
theorem dX0_requirePoint_16 : decode cX0_requirePoint 16 = .ok (.ldc 127, 2) := by decide +kernel
theorem dX0_requirePoint_18 : decode cX0_requirePoint 18 = .ok (.invokespecial 129, 3) := by decide +kernel
theorem dX0_requirePoint_21 : decode cX0_requirePoint 21 = .ok (.athrow, 1) := by decide +kernel
theorem dX0_requirePoint_22 : decode cX0_requirePoint 22 = .ok (.return_, 1) := by decide +kernel
set_option maxRecDepth 20000 in
theorem ggX0_requireCar_X0_hasCar : GoodIn wsX0_requireCar wsX0_hasCar := goodIn_r _ [7, 8, 9, 10, 11, 12, 13, 14, 15, 16, 17, 18, 19, 20, 21, 22, 23, 24] (by decide +kernel) (by decide +kernel)
set_option maxRecDepth 20000 in
theorem gX0_requireCar_X0_hasCar : GoodIn wsX0_requireCar (wsV RX0 68 RX0 yX0_hasCar wsX0_hasCar) := goodIn_app (goodIn_of _ (by decide +kernel)) ggX0_requireCar_X0_hasCar
theorem dX0_requireCar_0 : decode cX0_requireCar 0 = .ok (.aload_n 0, 1) := by decide +kernel
theorem dX0_requireCar_1 : decode cX0_requireCar 1 = .ok (.iload_n 1, 1) := by decide +kernel
theorem dX0_requireCar_2 : decode cX0_requireCar 2 = .ok (.invokevirtual 68, 3) := by decide +kernel
theorem dX0_requireCar_5 : decode cX0_requireCar 5 = .ok (.ifCond .ne 13, 3) := by decide +kernel
theorem dX0_requireCar_8 : decode cX0_requireCar 8 = .ok (.new 58, 3) := by decide +kernel
theorem dX0_requireCar_11 : decode cX0_requireCar 11 = .ok (.dup, 1) := by decide +kernel
theorem dX0_requireCar_12 : decode cX0_requireCar 12 = .ok (.ldc 130, 2) := by decide +kernel
theorem dX0_requireCar_14 : decode cX0_requireCar 14 = .ok (.invokespecial 62, 3) := by decide +kernel
theorem dX0_requireCar_17 : decode cX0_requireCar 17 = .ok (.athrow, 1) := by decide +kernel
theorem dX0_requireCar_18 : decode cX0_requireCar 18 = .ok (.return_, 1) := by decide +kernel
theorem dX0_hasCar_0 : decode cX0_hasCar 0 = .ok (.aload_n 0, 1) := by decide +kernel
theorem dX0_hasCar_1 : decode cX0_hasCar 1 = .ok (.getfield 16, 3) := by decide +kernel
theorem dX0_hasCar_4 : decode cX0_hasCar 4 = .ok (.iload_n 1, 1) := by decide +kernel
theorem dX0_hasCar_5 : decode cX0_hasCar 5 = .ok (.iaload, 1) := by decide +kernel
theorem dX0_hasCar_6 : decode cX0_hasCar 6 = .ok (.iconst (-1), 1) := by decide +kernel
theorem dX0_hasCar_7 : decode cX0_hasCar 7 = .ok (.if_icmp .eq 7, 3) := by decide +kernel
theorem dX0_hasCar_10 : decode cX0_hasCar 10 = .ok (.iconst 1, 1) := by decide +kernel
theorem dX0_hasCar_11 : decode cX0_hasCar 11 = .ok (.goto 4, 3) := by decide +kernel
theorem dX0_hasCar_14 : decode cX0_hasCar 14 = .ok (.iconst 0, 1) := by decide +kernel
theorem dX0_hasCar_15 : decode cX0_hasCar 15 = .ok (.ireturn, 1) := by decide +kernel
theorem dX0_stepsLeftAt_0 : decode cX0_stepsLeftAt 0 = .ok (.aload_n 0, 1) := by decide +kernel
theorem dX0_stepsLeftAt_1 : decode cX0_stepsLeftAt 1 = .ok (.getfield 22, 3) := by decide +kernel
theorem dX0_stepsLeftAt_4 : decode cX0_stepsLeftAt 4 = .ok (.iload_n 1, 1) := by decide +kernel
theorem dX0_stepsLeftAt_5 : decode cX0_stepsLeftAt 5 = .ok (.iaload, 1) := by decide +kernel
theorem dX0_stepsLeftAt_6 : decode cX0_stepsLeftAt 6 = .ok (.aload_n 0, 1) := by decide +kernel
theorem dX0_stepsLeftAt_7 : decode cX0_stepsLeftAt 7 = .ok (.getfield 74, 3) := by decide +kernel
theorem dX0_stepsLeftAt_10 : decode cX0_stepsLeftAt 10 = .ok (.isub, 1) := by decide +kernel
theorem dX0_stepsLeftAt_11 : decode cX0_stepsLeftAt 11 = .ok (.iconst 0, 1) := by decide +kernel
theorem dX0_stepsLeftAt_12 : decode cX0_stepsLeftAt 12 = .ok (.invokestatic 87, 3) := by decide +kernel
theorem dX0_stepsLeftAt_15 : decode cX0_stepsLeftAt 15 = .ok (.ireturn, 1) := by decide +kernel
theorem dX0_lesserOfGreatestAndAppetite_0 : decode cX0_lesserOfGreatestAndAppetite 0 = .ok (.aload_n 0, 1) := by decide +kernel
theorem dX0_lesserOfGreatestAndAppetite_1 : decode cX0_lesserOfGreatestAndAppetite 1 = .ok (.getfield 13, 3) := by decide +kernel
theorem dX0_lesserOfGreatestAndAppetite_4 : decode cX0_lesserOfGreatestAndAppetite 4 = .ok (.iload_n 1, 1) := by decide +kernel
theorem dX0_lesserOfGreatestAndAppetite_5 : decode cX0_lesserOfGreatestAndAppetite 5 = .ok (.iaload, 1) := by decide +kernel
theorem dX0_lesserOfGreatestAndAppetite_6 : decode cX0_lesserOfGreatestAndAppetite 6 = .ok (.aload_n 0, 1) := by decide +kernel
theorem dX0_lesserOfGreatestAndAppetite_7 : decode cX0_lesserOfGreatestAndAppetite 7 = .ok (.getfield 19, 3) := by decide +kernel
theorem dX0_lesserOfGreatestAndAppetite_10 : decode cX0_lesserOfGreatestAndAppetite 10 = .ok (.iload_n 1, 1) := by decide +kernel
theorem dX0_lesserOfGreatestAndAppetite_11 : decode cX0_lesserOfGreatestAndAppetite 11 = .ok (.iaload, 1) := by decide +kernel
theorem dX0_lesserOfGreatestAndAppetite_12 : decode cX0_lesserOfGreatestAndAppetite 12 = .ok (.invokestatic 132, 3) := by decide +kernel
theorem dX0_lesserOfGreatestAndAppetite_15 : decode cX0_lesserOfGreatestAndAppetite 15 = .ok (.ireturn, 1) := by decide +kernel
theorem dX0_unitsPerAmpere_0 : decode cX0_unitsPerAmpere 0 = .ok (.aload_n 0, 1) := by decide +kernel
theorem dX0_unitsPerAmpere_1 : decode cX0_unitsPerAmpere 1 = .ok (.getfield 9, 3) := by decide +kernel
theorem dX0_unitsPerAmpere_4 : decode cX0_unitsPerAmpere 4 = .ok (.iload_n 1, 1) := by decide +kernel
theorem dX0_unitsPerAmpere_5 : decode cX0_unitsPerAmpere 5 = .ok (.iaload, 1) := by decide +kernel
theorem dX0_unitsPerAmpere_6 : decode cX0_unitsPerAmpere 6 = .ok (.iconst 3, 1) := by decide +kernel
theorem dX0_unitsPerAmpere_7 : decode cX0_unitsPerAmpere 7 = .ok (.if_icmp .ne 7, 3) := by decide +kernel
theorem dX0_unitsPerAmpere_10 : decode cX0_unitsPerAmpere 10 = .ok (.iconst 3, 1) := by decide +kernel
theorem dX0_unitsPerAmpere_11 : decode cX0_unitsPerAmpere 11 = .ok (.goto 4, 3) := by decide +kernel
theorem dX0_unitsPerAmpere_14 : decode cX0_unitsPerAmpere 14 = .ok (.iconst 1, 1) := by decide +kernel
theorem dX0_unitsPerAmpere_15 : decode cX0_unitsPerAmpere 15 = .ok (.ireturn, 1) := by decide +kernel
set_option maxRecDepth 20000 in
theorem ggX0_laxityAt_X0_lesserOfGreatestAndAppetite : GoodIn wsX0_laxityAt wsX0_lesserOfGreatestAndAppetite := goodIn_r _ [6, 7, 8, 9, 10, 11, 12, 30, 31, 32, 33, 34, 35, 36, 37, 38, 39, 40, 41, 42, 43, 44, 45] (by decide +kernel) (by decide +kernel)
set_option maxRecDepth 20000 in
theorem gX0_laxityAt_X0_lesserOfGreatestAndAppetite : GoodIn wsX0_laxityAt (wsV RX0 135 RX0 yX0_lesserOfGreatestAndAppetite wsX0_lesserOfGreatestAndAppetite) := goodIn_app (goodIn_of _ (by decide +kernel)) ggX0_laxityAt_X0_lesserOfGreatestAndAppetite
set_option maxRecDepth 20000 in
theorem ggX0_laxityAt_X0_unitsPerAmpere : GoodIn wsX0_laxityAt wsX0_unitsPerAmpere := goodIn_r _ [16, 17, 30, 31, 32, 33, 34, 35, 36, 37, 38, 39, 40, 41, 42, 43, 44, 45] (by decide +kernel) (by decide +kernel)
set_option maxRecDepth 20000 in
theorem gX0_laxityAt_X0_unitsPerAmpere : GoodIn wsX0_laxityAt (wsV RX0 138 RX0 yX0_unitsPerAmpere wsX0_unitsPerAmpere) := goodIn_app (goodIn_of _ (by decide +kernel)) ggX0_laxityAt_X0_unitsPerAmpere
set_option maxRecDepth 20000 in
theorem ggX0_laxityAt_X0_stepsLeftAt : GoodIn wsX0_laxityAt wsX0_stepsLeftAt := goodIn_r _ [21, 22, 23, 24, 25, 11, 26, 30, 31, 32, 33, 34, 35, 36, 37, 38, 39, 40, 41, 42, 43, 44, 45] (by decide +kernel) (by decide +kernel)
set_option maxRecDepth 20000 in
theorem gX0_laxityAt_X0_stepsLeftAt : GoodIn wsX0_laxityAt (wsV RX0 93 RX0 yX0_stepsLeftAt wsX0_stepsLeftAt) := goodIn_app (goodIn_of _ (by decide +kernel)) ggX0_laxityAt_X0_stepsLeftAt
set_option maxRecDepth 20000 in
theorem ggX0_laxityAt_X0_dividedRoundedUp : GoodIn wsX0_laxityAt wsX0_dividedRoundedUp := goodIn_r _ [29] (by decide +kernel) (by decide +kernel)
set_option maxRecDepth 20000 in
theorem gX0_laxityAt_X0_dividedRoundedUp : GoodIn wsX0_laxityAt (va_wsS RX0 141 yX0_dividedRoundedUp wsX0_dividedRoundedUp) := goodIn_app (goodIn_of _ (by decide +kernel)) ggX0_laxityAt_X0_dividedRoundedUp
theorem dX0_laxityAt_0 : decode cX0_laxityAt 0 = .ok (.aload_n 0, 1) := by decide +kernel
theorem dX0_laxityAt_1 : decode cX0_laxityAt 1 = .ok (.iload_n 1, 1) := by decide +kernel
theorem dX0_laxityAt_2 : decode cX0_laxityAt 2 = .ok (.invokevirtual 135, 3) := by decide +kernel
theorem dX0_laxityAt_5 : decode cX0_laxityAt 5 = .ok (.aload_n 0, 1) := by decide +kernel
theorem dX0_laxityAt_6 : decode cX0_laxityAt 6 = .ok (.iload_n 1, 1) := by decide +kernel
theorem dX0_laxityAt_7 : decode cX0_laxityAt 7 = .ok (.invokevirtual 138, 3) := by decide +kernel
theorem dX0_laxityAt_10 : decode cX0_laxityAt 10 = .ok (.imul, 1) := by decide +kernel
theorem dX0_laxityAt_11 : decode cX0_laxityAt 11 = .ok (.istore_n 2, 1) := by decide +kernel
theorem dX0_laxityAt_12 : decode cX0_laxityAt 12 = .ok (.aload_n 0, 1) := by decide +kernel
theorem dX0_laxityAt_13 : decode cX0_laxityAt 13 = .ok (.iload_n 1, 1) := by decide +kernel
theorem dX0_laxityAt_14 : decode cX0_laxityAt 14 = .ok (.invokevirtual 93, 3) := by decide +kernel
theorem dX0_laxityAt_17 : decode cX0_laxityAt 17 = .ok (.aload_n 0, 1) := by decide +kernel
theorem dX0_laxityAt_18 : decode cX0_laxityAt 18 = .ok (.getfield 16, 3) := by decide +kernel
theorem dX0_laxityAt_21 : decode cX0_laxityAt 21 = .ok (.iload_n 1, 1) := by decide +kernel
theorem dX0_laxityAt_22 : decode cX0_laxityAt 22 = .ok (.iaload, 1) := by decide +kernel
theorem dX0_laxityAt_23 : decode cX0_laxityAt 23 = .ok (.iload_n 2, 1) := by decide +kernel
theorem dX0_laxityAt_24 : decode cX0_laxityAt 24 = .ok (.invokestatic 141, 3) := by decide +kernel
theorem dX0_laxityAt_27 : decode cX0_laxityAt 27 = .ok (.isub, 1) := by decide +kernel
theorem dX0_laxityAt_28 : decode cX0_laxityAt 28 = .ok (.ireturn, 1) := by decide +kernel
theorem dX0_isToBeGiven_0 : decode cX0_isToBeGiven 0 = .ok (.aload_n 0, 1) := by decide +kernel
theorem dX0_isToBeGiven_1 : decode cX0_isToBeGiven 1 = .ok (.getfield 16, 3) := by decide +kernel
theorem dX0_isToBeGiven_4 : decode cX0_isToBeGiven 4 = .ok (.iload_n 1, 1) := by decide +kernel
theorem dX0_isToBeGiven_5 : decode cX0_isToBeGiven 5 = .ok (.iaload, 1) := by decide +kernel
theorem dX0_isToBeGiven_6 : decode cX0_isToBeGiven 6 = .ok (.ifCond .le 20, 3) := by decide +kernel
theorem dX0_isToBeGiven_9 : decode cX0_isToBeGiven 9 = .ok (.aload_n 0, 1) := by decide +kernel
theorem dX0_isToBeGiven_10 : decode cX0_isToBeGiven 10 = .ok (.getfield 22, 3) := by decide +kernel
theorem dX0_isToBeGiven_13 : decode cX0_isToBeGiven 13 = .ok (.iload_n 1, 1) := by decide +kernel
theorem dX0_isToBeGiven_14 : decode cX0_isToBeGiven 14 = .ok (.iaload, 1) := by decide +kernel
theorem dX0_isToBeGiven_15 : decode cX0_isToBeGiven 15 = .ok (.aload_n 0, 1) := by decide +kernel
theorem dX0_isToBeGiven_16 : decode cX0_isToBeGiven 16 = .ok (.getfield 74, 3) := by decide +kernel
theorem dX0_isToBeGiven_19 : decode cX0_isToBeGiven 19 = .ok (.if_icmp .le 7, 3) := by decide +kernel
theorem dX0_isToBeGiven_22 : decode cX0_isToBeGiven 22 = .ok (.iconst 1, 1) := by decide +kernel
theorem dX0_isToBeGiven_23 : decode cX0_isToBeGiven 23 = .ok (.goto 4, 3) := by decide +kernel
theorem dX0_isToBeGiven_26 : decode cX0_isToBeGiven 26 = .ok (.iconst 0, 1) := by decide +kernel
theorem dX0_isToBeGiven_27 : decode cX0_isToBeGiven 27 = .ok (.ireturn, 1) := by decide +kernel
set_option maxRecDepth 20000 in
theorem ggX0_reachAt_X0_isToBeGiven : GoodIn wsX0_reachAt wsX0_isToBeGiven := goodIn_r _ [10, 1, 11, 12, 27, 28, 29, 30, 31, 32, 33, 34, 35, 36, 37, 38, 39, 40, 41, 42] (by decide +kernel) (by decide +kernel)
set_option maxRecDepth 20000 in
theorem gX0_reachAt_X0_isToBeGiven : GoodIn wsX0_reachAt (wsV RX0 144 RX0 yX0_isToBeGiven wsX0_isToBeGiven) := goodIn_app (goodIn_of _ (by decide +kernel)) ggX0_reachAt_X0_isToBeGiven
set_option maxRecDepth 20000 in
theorem ggX0_reachAt_X0_unitsPerAmpere : GoodIn wsX0_reachAt wsX0_unitsPerAmpere := goodIn_r _ [16, 17, 27, 28, 29, 30, 31, 32, 33, 34, 35, 36, 37, 38, 39, 40, 41, 42] (by decide +kernel) (by decide +kernel)
set_option maxRecDepth 20000 in
theorem gX0_reachAt_X0_unitsPerAmpere : GoodIn wsX0_reachAt (wsV RX0 138 RX0 yX0_unitsPerAmpere wsX0_unitsPerAmpere) := goodIn_app (goodIn_of _ (by decide +kernel)) ggX0_reachAt_X0_unitsPerAmpere
set_option maxRecDepth 20000 in
theorem ggX0_reachAt_X0_dividedRoundedUp : GoodIn wsX0_reachAt wsX0_dividedRoundedUp := goodIn_r _ [20] (by decide +kernel) (by decide +kernel)
set_option maxRecDepth 20000 in
theorem gX0_reachAt_X0_dividedRoundedUp : GoodIn wsX0_reachAt (va_wsS RX0 141 yX0_dividedRoundedUp wsX0_dividedRoundedUp) := goodIn_app (goodIn_of _ (by decide +kernel)) ggX0_reachAt_X0_dividedRoundedUp
set_option maxRecDepth 20000 in
theorem ggX0_reachAt_X0_lesserOfGreatestAndAppetite : GoodIn wsX0_reachAt wsX0_lesserOfGreatestAndAppetite := goodIn_r _ [24, 25, 26, 2, 3, 4, 5, 27, 28, 29, 30, 31, 32, 33, 34, 35, 36, 37, 38, 39, 40, 41, 42] (by decide +kernel) (by decide +kernel)
set_option maxRecDepth 20000 in
theorem gX0_reachAt_X0_lesserOfGreatestAndAppetite : GoodIn wsX0_reachAt (wsV RX0 135 RX0 yX0_lesserOfGreatestAndAppetite wsX0_lesserOfGreatestAndAppetite) := goodIn_app (goodIn_of _ (by decide +kernel)) ggX0_reachAt_X0_lesserOfGreatestAndAppetite
theorem dX0_reachAt_0 : decode cX0_reachAt 0 = .ok (.aload_n 0, 1) := by decide +kernel
theorem dX0_reachAt_1 : decode cX0_reachAt 1 = .ok (.iload_n 1, 1) := by decide +kernel
theorem dX0_reachAt_2 : decode cX0_reachAt 2 = .ok (.invokevirtual 144, 3) := by decide +kernel
theorem dX0_reachAt_5 : decode cX0_reachAt 5 = .ok (.ifCond .ne 5, 3) := by decide +kernel
theorem dX0_reachAt_8 : decode cX0_reachAt 8 = .ok (.iconst 0, 1) := by decide +kernel
theorem dX0_reachAt_9 : decode cX0_reachAt 9 = .ok (.ireturn, 1) := by decide +kernel
theorem dX0_reachAt_10 : decode cX0_reachAt 10 = .ok (.aload_n 0, 1) := by decide +kernel
theorem dX0_reachAt_11 : decode cX0_reachAt 11 = .ok (.getfield 16, 3) := by decide +kernel
theorem dX0_reachAt_14 : decode cX0_reachAt 14 = .ok (.iload_n 1, 1) := by decide +kernel
theorem dX0_reachAt_15 : decode cX0_reachAt 15 = .ok (.iaload, 1) := by decide +kernel
theorem dX0_reachAt_16 : decode cX0_reachAt 16 = .ok (.aload_n 0, 1) := by decide +kernel
theorem dX0_reachAt_17 : decode cX0_reachAt 17 = .ok (.iload_n 1, 1) := by decide +kernel
theorem dX0_reachAt_18 : decode cX0_reachAt 18 = .ok (.invokevirtual 138, 3) := by decide +kernel
theorem dX0_reachAt_21 : decode cX0_reachAt 21 = .ok (.invokestatic 141, 3) := by decide +kernel
theorem dX0_reachAt_24 : decode cX0_reachAt 24 = .ok (.istore_n 2, 1) := by decide +kernel
theorem dX0_reachAt_25 : decode cX0_reachAt 25 = .ok (.aload_n 0, 1) := by decide +kernel
theorem dX0_reachAt_26 : decode cX0_reachAt 26 = .ok (.iload_n 1, 1) := by decide +kernel
theorem dX0_reachAt_27 : decode cX0_reachAt 27 = .ok (.invokevirtual 135, 3) := by decide +kernel
theorem dX0_reachAt_30 : decode cX0_reachAt 30 = .ok (.iload_n 2, 1) := by decide +kernel
theorem dX0_reachAt_31 : decode cX0_reachAt 31 = .ok (.invokestatic 132, 3) := by decide +kernel
theorem dX0_reachAt_34 : decode cX0_reachAt 34 = .ok (.ireturn, 1) := by decide +kernel
theorem dX0_dividedRoundedUp_0 : decode cX0_dividedRoundedUp 0 = .ok (.iload_n 1, 1) := by decide +kernel
theorem dX0_dividedRoundedUp_1 : decode cX0_dividedRoundedUp 1 = .ok (.iconst 1, 1) := by decide +kernel
theorem dX0_dividedRoundedUp_2 : decode cX0_dividedRoundedUp 2 = .ok (.if_icmp .ge 7, 3) := by decide +kernel
theorem dX0_dividedRoundedUp_5 : decode cX0_dividedRoundedUp 5 = .ok (.iload_n 0, 1) := by decide +kernel
theorem dX0_dividedRoundedUp_6 : decode cX0_dividedRoundedUp 6 = .ok (.goto 10, 3) := by decide +kernel
theorem dX0_dividedRoundedUp_9 : decode cX0_dividedRoundedUp 9 = .ok (.iload_n 0, 1) := by decide +kernel
theorem dX0_dividedRoundedUp_10 : decode cX0_dividedRoundedUp 10 = .ok (.iload_n 1, 1) := by decide +kernel
theorem dX0_dividedRoundedUp_11 : decode cX0_dividedRoundedUp 11 = .ok (.iadd, 1) := by decide +kernel
theorem dX0_dividedRoundedUp_12 : decode cX0_dividedRoundedUp 12 = .ok (.iconst 1, 1) := by decide +kernel
theorem dX0_dividedRoundedUp_13 : decode cX0_dividedRoundedUp 13 = .ok (.isub, 1) := by decide +kernel
theorem dX0_dividedRoundedUp_14 : decode cX0_dividedRoundedUp 14 = .ok (.iload_n 1, 1) := by decide +kernel
theorem dX0_dividedRoundedUp_15 : decode cX0_dividedRoundedUp 15 = .ok (.idiv, 1) := by decide +kernel
theorem dX0_dividedRoundedUp_16 : decode cX0_dividedRoundedUp 16 = .ok (.ireturn, 1) := by decide +kernel
set_option maxRecDepth 20000 in
theorem ggX0_shareCurrents_X0_startShares : GoodIn wsX0_shareCurrents wsX0_startShares := goodIn_r _ [6, 7, 8, 9, 10, 11, 12, 13, 5, 14, 15, 16, 17, 18, 19, 20, 21, 22, 23, 24, 25, 26, 27, 28, 29, 30, 31, 32, 33, 34, 35, 36, 37, 38, 39, 98, 99, 100, 101, 102, 103, 104, 105, 106, 107, 108, 109, 110, 111, 112, 113] (by decide +kernel) (by decide +kernel)
set_option maxRecDepth 20000 in
theorem gX0_shareCurrents_X0_startShares : GoodIn wsX0_shareCurrents (wsV RX0 147 RX0 yX0_startShares wsX0_startShares) := goodIn_app (goodIn_of _ (by decide +kernel)) ggX0_shareCurrents_X0_startShares
set_option maxRecDepth 20000 in
theorem ggX0_shareCurrents_X0_shareFairly : GoodIn wsX0_shareCurrents wsX0_shareFairly := goodIn_r _ [43, 44, 45, 46, 5, 47, 7, 8, 9, 48, 49, 50, 51, 52, 10, 16, 17, 18, 19, 53, 54, 55, 56, 30, 57, 58, 59, 60, 98, 99, 100, 101, 102, 103, 104, 105, 106, 107, 108, 109, 110, 111, 112, 113] (by decide +kernel) (by decide +kernel)
set_option maxRecDepth 20000 in
theorem gX0_shareCurrents_X0_shareFairly : GoodIn wsX0_shareCurrents (wsV RX0 150 RX0 yX0_shareFairly wsX0_shareFairly) := goodIn_app (goodIn_of _ (by decide +kernel)) ggX0_shareCurrents_X0_shareFairly
set_option maxRecDepth 20000 in
theorem ggX0_shareCurrents_X0_shareByLaxity : GoodIn wsX0_shareCurrents wsX0_shareByLaxity := goodIn_r _ [64, 7, 9, 65, 16, 17, 18, 19, 66, 67, 68, 5, 69, 70, 71, 72, 73, 15, 34, 35, 36, 37, 38, 39, 26, 27, 28, 29, 30, 74, 75, 76, 77, 24, 25, 78, 79, 80, 31, 32, 33, 48, 49, 50, 51, 52, 10, 53, 54, 55, 56, 57, 58, 59, 60, 8, 98, 99, 100, 101, 102, 103, 104, 105, 106, 107, 108, 109, 110, 111, 112, 113] (by decide +kernel) (by decide +kernel)
set_option maxRecDepth 20000 in
theorem gX0_shareCurrents_X0_shareByLaxity : GoodIn wsX0_shareCurrents (wsV RX0 153 RX0 yX0_shareByLaxity wsX0_shareByLaxity) := goodIn_app (goodIn_of _ (by decide +kernel)) ggX0_shareCurrents_X0_shareByLaxity
set_option maxRecDepth 20000 in
theorem ggX0_shareCurrents_X0_keepBalance : GoodIn wsX0_shareCurrents wsX0_keepBalance := goodIn_r _ [84, 85, 86, 87, 88, 5, 89, 10, 78, 79, 18, 80, 16, 17, 19, 90, 91, 92, 93, 94, 95, 96, 97, 7, 30, 8, 57, 58, 59, 60, 53, 54, 55, 56, 98, 99, 100, 101, 102, 103, 104, 105, 106, 107, 108, 109, 110, 111, 112, 113] (by decide +kernel) (by decide +kernel)
set_option maxRecDepth 20000 in
theorem gX0_shareCurrents_X0_keepBalance : GoodIn wsX0_shareCurrents (wsV RX0 156 RX0 yX0_keepBalance wsX0_keepBalance) := goodIn_app (goodIn_of _ (by decide +kernel)) ggX0_shareCurrents_X0_keepBalance
theorem dX0_shareCurrents_0 : decode cX0_shareCurrents 0 = .ok (.aload_n 0, 1) := by decide +kernel
theorem dX0_shareCurrents_1 : decode cX0_shareCurrents 1 = .ok (.invokevirtual 147, 3) := by decide +kernel
theorem dX0_shareCurrents_4 : decode cX0_shareCurrents 4 = .ok (.aload_n 0, 1) := by decide +kernel
theorem dX0_shareCurrents_5 : decode cX0_shareCurrents 5 = .ok (.getfield 44, 3) := by decide +kernel
theorem dX0_shareCurrents_8 : decode cX0_shareCurrents 8 = .ok (.iconst 1, 1) := by decide +kernel
theorem dX0_shareCurrents_9 : decode cX0_shareCurrents 9 = .ok (.if_icmp .ne 10, 3) := by decide +kernel
theorem dX0_shareCurrents_12 : decode cX0_shareCurrents 12 = .ok (.aload_n 0, 1) := by decide +kernel
theorem dX0_shareCurrents_13 : decode cX0_shareCurrents 13 = .ok (.invokevirtual 150, 3) := by decide +kernel
theorem dX0_shareCurrents_16 : decode cX0_shareCurrents 16 = .ok (.goto 7, 3) := by decide +kernel
theorem dX0_shareCurrents_19 : decode cX0_shareCurrents 19 = .ok (.aload_n 0, 1) := by decide +kernel
theorem dX0_shareCurrents_20 : decode cX0_shareCurrents 20 = .ok (.invokevirtual 153, 3) := by decide +kernel
theorem dX0_shareCurrents_23 : decode cX0_shareCurrents 23 = .ok (.aload_n 0, 1) := by decide +kernel
theorem dX0_shareCurrents_24 : decode cX0_shareCurrents 24 = .ok (.invokevirtual 156, 3) := by decide +kernel
theorem dX0_shareCurrents_27 : decode cX0_shareCurrents 27 = .ok (.return_, 1) := by decide +kernel
set_option maxRecDepth 20000 in
theorem ggX0_takeWhatIsGiven_X0_unitsPerAmpere : GoodIn wsX0_takeWhatIsGiven wsX0_unitsPerAmpere := goodIn_r _ [13, 14, 15, 16, 17, 18, 19, 20, 21, 22, 23, 24, 25, 26, 27, 28, 29, 30] (by decide +kernel) (by decide +kernel)
set_option maxRecDepth 20000 in
theorem gX0_takeWhatIsGiven_X0_unitsPerAmpere : GoodIn wsX0_takeWhatIsGiven (wsV RX0 138 RX0 yX0_unitsPerAmpere wsX0_unitsPerAmpere) := goodIn_app (goodIn_of _ (by decide +kernel)) ggX0_takeWhatIsGiven_X0_unitsPerAmpere
theorem dX0_takeWhatIsGiven_0 : decode cX0_takeWhatIsGiven 0 = .ok (.iconst 0, 1) := by decide +kernel
theorem dX0_takeWhatIsGiven_1 : decode cX0_takeWhatIsGiven 1 = .ok (.istore_n 1, 1) := by decide +kernel
theorem dX0_takeWhatIsGiven_2 : decode cX0_takeWhatIsGiven 2 = .ok (.iload_n 1, 1) := by decide +kernel
theorem dX0_takeWhatIsGiven_3 : decode cX0_takeWhatIsGiven 3 = .ok (.aload_n 0, 1) := by decide +kernel
theorem dX0_takeWhatIsGiven_4 : decode cX0_takeWhatIsGiven 4 = .ok (.getfield 55, 3) := by decide +kernel
theorem dX0_takeWhatIsGiven_7 : decode cX0_takeWhatIsGiven 7 = .ok (.if_icmp .ge 60, 3) := by decide +kernel
theorem dX0_takeWhatIsGiven_10 : decode cX0_takeWhatIsGiven 10 = .ok (.aload_n 0, 1) := by decide +kernel
theorem dX0_takeWhatIsGiven_11 : decode cX0_takeWhatIsGiven 11 = .ok (.getfield 28, 3) := by decide +kernel
theorem dX0_takeWhatIsGiven_14 : decode cX0_takeWhatIsGiven 14 = .ok (.iload_n 1, 1) := by decide +kernel
theorem dX0_takeWhatIsGiven_15 : decode cX0_takeWhatIsGiven 15 = .ok (.iaload, 1) := by decide +kernel
theorem dX0_takeWhatIsGiven_16 : decode cX0_takeWhatIsGiven 16 = .ok (.ifCond .le 45, 3) := by decide +kernel
theorem dX0_takeWhatIsGiven_19 : decode cX0_takeWhatIsGiven 19 = .ok (.aload_n 0, 1) := by decide +kernel
theorem dX0_takeWhatIsGiven_20 : decode cX0_takeWhatIsGiven 20 = .ok (.getfield 28, 3) := by decide +kernel
theorem dX0_takeWhatIsGiven_23 : decode cX0_takeWhatIsGiven 23 = .ok (.iload_n 1, 1) := by decide +kernel
theorem dX0_takeWhatIsGiven_24 : decode cX0_takeWhatIsGiven 24 = .ok (.iaload, 1) := by decide +kernel
theorem dX0_takeWhatIsGiven_25 : decode cX0_takeWhatIsGiven 25 = .ok (.aload_n 0, 1) := by decide +kernel
theorem dX0_takeWhatIsGiven_26 : decode cX0_takeWhatIsGiven 26 = .ok (.iload_n 1, 1) := by decide +kernel
theorem dX0_takeWhatIsGiven_27 : decode cX0_takeWhatIsGiven 27 = .ok (.invokevirtual 138, 3) := by decide +kernel
theorem dX0_takeWhatIsGiven_30 : decode cX0_takeWhatIsGiven 30 = .ok (.imul, 1) := by decide +kernel
theorem dX0_takeWhatIsGiven_31 : decode cX0_takeWhatIsGiven 31 = .ok (.aload_n 0, 1) := by decide +kernel
theorem dX0_takeWhatIsGiven_32 : decode cX0_takeWhatIsGiven 32 = .ok (.getfield 16, 3) := by decide +kernel
theorem dX0_takeWhatIsGiven_35 : decode cX0_takeWhatIsGiven 35 = .ok (.iload_n 1, 1) := by decide +kernel
theorem dX0_takeWhatIsGiven_36 : decode cX0_takeWhatIsGiven 36 = .ok (.iaload, 1) := by decide +kernel
theorem dX0_takeWhatIsGiven_37 : decode cX0_takeWhatIsGiven 37 = .ok (.invokestatic 132, 3) := by decide +kernel
theorem dX0_takeWhatIsGiven_40 : decode cX0_takeWhatIsGiven 40 = .ok (.istore_n 2, 1) := by decide +kernel
theorem dX0_takeWhatIsGiven_41 : decode cX0_takeWhatIsGiven 41 = .ok (.aload_n 0, 1) := by decide +kernel
theorem dX0_takeWhatIsGiven_42 : decode cX0_takeWhatIsGiven 42 = .ok (.getfield 16, 3) := by decide +kernel
theorem dX0_takeWhatIsGiven_45 : decode cX0_takeWhatIsGiven 45 = .ok (.iload_n 1, 1) := by decide +kernel
theorem dX0_takeWhatIsGiven_46 : decode cX0_takeWhatIsGiven 46 = .ok (.dup2, 1) := by decide +kernel
theorem dX0_takeWhatIsGiven_47 : decode cX0_takeWhatIsGiven 47 = .ok (.iaload, 1) := by decide +kernel
theorem dX0_takeWhatIsGiven_48 : decode cX0_takeWhatIsGiven 48 = .ok (.iload_n 2, 1) := by decide +kernel
theorem dX0_takeWhatIsGiven_49 : decode cX0_takeWhatIsGiven 49 = .ok (.isub, 1) := by decide +kernel
theorem dX0_takeWhatIsGiven_50 : decode cX0_takeWhatIsGiven 50 = .ok (.iastore, 1) := by decide +kernel
theorem dX0_takeWhatIsGiven_51 : decode cX0_takeWhatIsGiven 51 = .ok (.aload_n 0, 1) := by decide +kernel
theorem dX0_takeWhatIsGiven_52 : decode cX0_takeWhatIsGiven 52 = .ok (.dup, 1) := by decide +kernel
theorem dX0_takeWhatIsGiven_53 : decode cX0_takeWhatIsGiven 53 = .ok (.getfield 96, 3) := by decide +kernel
theorem dX0_takeWhatIsGiven_56 : decode cX0_takeWhatIsGiven 56 = .ok (.iload_n 2, 1) := by decide +kernel
theorem dX0_takeWhatIsGiven_57 : decode cX0_takeWhatIsGiven 57 = .ok (.iadd, 1) := by decide +kernel
theorem dX0_takeWhatIsGiven_58 : decode cX0_takeWhatIsGiven 58 = .ok (.putfield 96, 3) := by decide +kernel
theorem dX0_takeWhatIsGiven_61 : decode cX0_takeWhatIsGiven 61 = .ok (.iinc 1 1, 3) := by decide +kernel
theorem dX0_takeWhatIsGiven_64 : decode cX0_takeWhatIsGiven 64 = .ok (.goto (-62), 3) := by decide +kernel
theorem dX0_takeWhatIsGiven_67 : decode cX0_takeWhatIsGiven 67 = .ok (.return_, 1) := by decide +kernel
set_option maxRecDepth 20000 in
theorem ggX0_startShares_X0_reachAt : GoodIn wsX0_startShares wsX0_reachAt := goodIn_r _ [9, 10, 11, 12, 13, 14, 15, 16, 17, 8, 18, 19, 20, 21, 22, 23, 24, 25, 26, 27, 28, 29, 30, 31, 32, 33, 34, 35, 36, 37, 38, 39, 40, 41, 42, 43, 44, 45, 46, 47, 48, 49, 50] (by decide +kernel) (by decide +kernel)
set_option maxRecDepth 20000 in
theorem gX0_startShares_X0_reachAt : GoodIn wsX0_startShares (wsV RX0 105 RX0 yX0_reachAt wsX0_reachAt) := goodIn_app (goodIn_of _ (by decide +kernel)) ggX0_startShares_X0_reachAt
theorem dX0_startShares_0 : decode cX0_startShares 0 = .ok (.iconst 0, 1) := by decide +kernel
theorem dX0_startShares_1 : decode cX0_startShares 1 = .ok (.istore_n 1, 1) := by decide +kernel
theorem dX0_startShares_2 : decode cX0_startShares 2 = .ok (.iload_n 1, 1) := by decide +kernel
theorem dX0_startShares_3 : decode cX0_startShares 3 = .ok (.aload_n 0, 1) := by decide +kernel
theorem dX0_startShares_4 : decode cX0_startShares 4 = .ok (.getfield 55, 3) := by decide +kernel
theorem dX0_startShares_7 : decode cX0_startShares 7 = .ok (.if_icmp .ge 27, 3) := by decide +kernel
theorem dX0_startShares_10 : decode cX0_startShares 10 = .ok (.aload_n 0, 1) := by decide +kernel
theorem dX0_startShares_11 : decode cX0_startShares 11 = .ok (.getfield 28, 3) := by decide +kernel
theorem dX0_startShares_14 : decode cX0_startShares 14 = .ok (.iload_n 1, 1) := by decide +kernel
theorem dX0_startShares_15 : decode cX0_startShares 15 = .ok (.iconst 0, 1) := by decide +kernel
theorem dX0_startShares_16 : decode cX0_startShares 16 = .ok (.iastore, 1) := by decide +kernel
theorem dX0_startShares_17 : decode cX0_startShares 17 = .ok (.aload_n 0, 1) := by decide +kernel
theorem dX0_startShares_18 : decode cX0_startShares 18 = .ok (.getfield 25, 3) := by decide +kernel
theorem dX0_startShares_21 : decode cX0_startShares 21 = .ok (.iload_n 1, 1) := by decide +kernel
theorem dX0_startShares_22 : decode cX0_startShares 22 = .ok (.aload_n 0, 1) := by decide +kernel
theorem dX0_startShares_23 : decode cX0_startShares 23 = .ok (.iload_n 1, 1) := by decide +kernel
theorem dX0_startShares_24 : decode cX0_startShares 24 = .ok (.invokevirtual 105, 3) := by decide +kernel
theorem dX0_startShares_27 : decode cX0_startShares 27 = .ok (.iastore, 1) := by decide +kernel
theorem dX0_startShares_28 : decode cX0_startShares 28 = .ok (.iinc 1 1, 3) := by decide +kernel
theorem dX0_startShares_31 : decode cX0_startShares 31 = .ok (.goto (-29), 3) := by decide +kernel
theorem dX0_startShares_34 : decode cX0_startShares 34 = .ok (.iconst 0, 1) := by decide +kernel
theorem dX0_startShares_35 : decode cX0_startShares 35 = .ok (.istore_n 1, 1) := by decide +kernel
theorem dX0_startShares_36 : decode cX0_startShares 36 = .ok (.iload_n 1, 1) := by decide +kernel
theorem dX0_startShares_37 : decode cX0_startShares 37 = .ok (.iconst 3, 1) := by decide +kernel
theorem dX0_startShares_38 : decode cX0_startShares 38 = .ok (.if_icmp .ge 16, 3) := by decide +kernel
theorem dX0_startShares_41 : decode cX0_startShares 41 = .ok (.aload_n 0, 1) := by decide +kernel
theorem dX0_startShares_42 : decode cX0_startShares 42 = .ok (.getfield 34, 3) := by decide +kernel
theorem dX0_startShares_45 : decode cX0_startShares 45 = .ok (.iload_n 1, 1) := by decide +kernel
theorem dX0_startShares_46 : decode cX0_startShares 46 = .ok (.iconst 0, 1) := by decide +kernel
theorem dX0_startShares_47 : decode cX0_startShares 47 = .ok (.iastore, 1) := by decide +kernel
theorem dX0_startShares_48 : decode cX0_startShares 48 = .ok (.iinc 1 1, 3) := by decide +kernel
theorem dX0_startShares_51 : decode cX0_startShares 51 = .ok (.goto (-15), 3) := by decide +kernel
theorem dX0_startShares_54 : decode cX0_startShares 54 = .ok (.return_, 1) := by decide +kernel
theorem dX0_isAt_0 : decode cX0_isAt 0 = .ok (.aload_n 0, 1) := by decide +kernel
theorem dX0_isAt_1 : decode cX0_isAt 1 = .ok (.getfield 9, 3) := by decide +kernel
theorem dX0_isAt_4 : decode cX0_isAt 4 = .ok (.iload_n 1, 1) := by decide +kernel
theorem dX0_isAt_5 : decode cX0_isAt 5 = .ok (.iaload, 1) := by decide +kernel
theorem dX0_isAt_6 : decode cX0_isAt 6 = .ok (.iload_n 2, 1) := by decide +kernel
theorem dX0_isAt_7 : decode cX0_isAt 7 = .ok (.if_icmp .eq 13, 3) := by decide +kernel
theorem dX0_isAt_10 : decode cX0_isAt 10 = .ok (.aload_n 0, 1) := by decide +kernel
theorem dX0_isAt_11 : decode cX0_isAt 11 = .ok (.getfield 9, 3) := by decide +kernel
theorem dX0_isAt_14 : decode cX0_isAt 14 = .ok (.iload_n 1, 1) := by decide +kernel
theorem dX0_isAt_15 : decode cX0_isAt 15 = .ok (.iaload, 1) := by decide +kernel
theorem dX0_isAt_16 : decode cX0_isAt 16 = .ok (.iconst 3, 1) := by decide +kernel
theorem dX0_isAt_17 : decode cX0_isAt 17 = .ok (.if_icmp .ne 7, 3) := by decide +kernel
theorem dX0_isAt_20 : decode cX0_isAt 20 = .ok (.iconst 1, 1) := by decide +kernel
theorem dX0_isAt_21 : decode cX0_isAt 21 = .ok (.goto 4, 3) := by decide +kernel
theorem dX0_isAt_24 : decode cX0_isAt 24 = .ok (.iconst 0, 1) := by decide +kernel
theorem dX0_isAt_25 : decode cX0_isAt 25 = .ok (.ireturn, 1) := by decide +kernel
set_option maxRecDepth 20000 in
theorem ggX0_give_X0_isAt : GoodIn wsX0_give wsX0_isAt := goodIn_r _ [7, 8, 9, 10, 11, 12, 13, 14, 15, 16, 17, 18, 19, 20, 21, 22, 23, 24] (by decide +kernel) (by decide +kernel)
set_option maxRecDepth 20000 in
theorem gX0_give_X0_isAt : GoodIn wsX0_give (wsV RX0 159 RX0 yX0_isAt wsX0_isAt) := goodIn_app (goodIn_of _ (by decide +kernel)) ggX0_give_X0_isAt
theorem dX0_give_0 : decode cX0_give 0 = .ok (.aload_n 0, 1) := by decide +kernel
theorem dX0_give_1 : decode cX0_give 1 = .ok (.getfield 28, 3) := by decide +kernel
theorem dX0_give_4 : decode cX0_give 4 = .ok (.iload_n 1, 1) := by decide +kernel
theorem dX0_give_5 : decode cX0_give 5 = .ok (.dup2, 1) := by decide +kernel
theorem dX0_give_6 : decode cX0_give 6 = .ok (.iaload, 1) := by decide +kernel
theorem dX0_give_7 : decode cX0_give 7 = .ok (.iload_n 2, 1) := by decide +kernel
theorem dX0_give_8 : decode cX0_give 8 = .ok (.iadd, 1) := by decide +kernel
theorem dX0_give_9 : decode cX0_give 9 = .ok (.iastore, 1) := by decide +kernel
theorem dX0_give_10 : decode cX0_give 10 = .ok (.iconst 0, 1) := by decide +kernel
theorem dX0_give_11 : decode cX0_give 11 = .ok (.istore_n 3, 1) := by decide +kernel
theorem dX0_give_12 : decode cX0_give 12 = .ok (.iload_n 3, 1) := by decide +kernel
theorem dX0_give_13 : decode cX0_give 13 = .ok (.iconst 3, 1) := by decide +kernel
theorem dX0_give_14 : decode cX0_give 14 = .ok (.if_icmp .ge 28, 3) := by decide +kernel
theorem dX0_give_17 : decode cX0_give 17 = .ok (.aload_n 0, 1) := by decide +kernel
theorem dX0_give_18 : decode cX0_give 18 = .ok (.iload_n 1, 1) := by decide +kernel
theorem dX0_give_19 : decode cX0_give 19 = .ok (.iload_n 3, 1) := by decide +kernel
theorem dX0_give_20 : decode cX0_give 20 = .ok (.invokevirtual 159, 3) := by decide +kernel
theorem dX0_give_23 : decode cX0_give 23 = .ok (.ifCond .eq 13, 3) := by decide +kernel
theorem dX0_give_26 : decode cX0_give 26 = .ok (.aload_n 0, 1) := by decide +kernel
theorem dX0_give_27 : decode cX0_give 27 = .ok (.getfield 34, 3) := by decide +kernel
theorem dX0_give_30 : decode cX0_give 30 = .ok (.iload_n 3, 1) := by decide +kernel
theorem dX0_give_31 : decode cX0_give 31 = .ok (.dup2, 1) := by decide +kernel
theorem dX0_give_32 : decode cX0_give 32 = .ok (.iaload, 1) := by decide +kernel
theorem dX0_give_33 : decode cX0_give 33 = .ok (.iload_n 2, 1) := by decide +kernel
theorem dX0_give_34 : decode cX0_give 34 = .ok (.iadd, 1) := by decide +kernel
theorem dX0_give_35 : decode cX0_give 35 = .ok (.iastore, 1) := by decide +kernel
theorem dX0_give_36 : decode cX0_give 36 = .ok (.iinc 3 1, 3) := by decide +kernel
theorem dX0_give_39 : decode cX0_give 39 = .ok (.goto (-27), 3) := by decide +kernel
theorem dX0_give_42 : decode cX0_give 42 = .ok (.return_, 1) := by decide +kernel
set_option maxRecDepth 20000 in
theorem ggX0_roomFor_X0_isAt : GoodIn wsX0_roomFor wsX0_isAt := goodIn_r _ [11, 12, 13, 14, 15, 16, 17, 18, 19, 20, 21, 22, 23, 24, 25, 26, 27, 28] (by decide +kernel) (by decide +kernel)
set_option maxRecDepth 20000 in
theorem gX0_roomFor_X0_isAt : GoodIn wsX0_roomFor (wsV RX0 159 RX0 yX0_isAt wsX0_isAt) := goodIn_app (goodIn_of _ (by decide +kernel)) ggX0_roomFor_X0_isAt
theorem dX0_roomFor_0 : decode cX0_roomFor 0 = .ok (.bipush 100, 2) := by decide +kernel
theorem dX0_roomFor_2 : decode cX0_roomFor 2 = .ok (.istore_n 2, 1) := by decide +kernel
theorem dX0_roomFor_3 : decode cX0_roomFor 3 = .ok (.iconst 0, 1) := by decide +kernel
theorem dX0_roomFor_4 : decode cX0_roomFor 4 = .ok (.istore_n 3, 1) := by decide +kernel
theorem dX0_roomFor_5 : decode cX0_roomFor 5 = .ok (.iload_n 3, 1) := by decide +kernel
theorem dX0_roomFor_6 : decode cX0_roomFor 6 = .ok (.iconst 3, 1) := by decide +kernel
theorem dX0_roomFor_7 : decode cX0_roomFor 7 = .ok (.if_icmp .ge 36, 3) := by decide +kernel
theorem dX0_roomFor_10 : decode cX0_roomFor 10 = .ok (.aload_n 0, 1) := by decide +kernel
theorem dX0_roomFor_11 : decode cX0_roomFor 11 = .ok (.iload_n 1, 1) := by decide +kernel
theorem dX0_roomFor_12 : decode cX0_roomFor 12 = .ok (.iload_n 3, 1) := by decide +kernel
theorem dX0_roomFor_13 : decode cX0_roomFor 13 = .ok (.invokevirtual 159, 3) := by decide +kernel
theorem dX0_roomFor_16 : decode cX0_roomFor 16 = .ok (.ifCond .eq 21, 3) := by decide +kernel
theorem dX0_roomFor_19 : decode cX0_roomFor 19 = .ok (.iload_n 2, 1) := by decide +kernel
theorem dX0_roomFor_20 : decode cX0_roomFor 20 = .ok (.aload_n 0, 1) := by decide +kernel
theorem dX0_roomFor_21 : decode cX0_roomFor 21 = .ok (.getfield 37, 3) := by decide +kernel
theorem dX0_roomFor_24 : decode cX0_roomFor 24 = .ok (.iload_n 3, 1) := by decide +kernel
theorem dX0_roomFor_25 : decode cX0_roomFor 25 = .ok (.iaload, 1) := by decide +kernel
theorem dX0_roomFor_26 : decode cX0_roomFor 26 = .ok (.aload_n 0, 1) := by decide +kernel
theorem dX0_roomFor_27 : decode cX0_roomFor 27 = .ok (.getfield 34, 3) := by decide +kernel
theorem dX0_roomFor_30 : decode cX0_roomFor 30 = .ok (.iload_n 3, 1) := by decide +kernel
theorem dX0_roomFor_31 : decode cX0_roomFor 31 = .ok (.iaload, 1) := by decide +kernel
theorem dX0_roomFor_32 : decode cX0_roomFor 32 = .ok (.isub, 1) := by decide +kernel
theorem dX0_roomFor_33 : decode cX0_roomFor 33 = .ok (.invokestatic 132, 3) := by decide +kernel
theorem dX0_roomFor_36 : decode cX0_roomFor 36 = .ok (.istore_n 2, 1) := by decide +kernel
theorem dX0_roomFor_37 : decode cX0_roomFor 37 = .ok (.iinc 3 1, 3) := by decide +kernel
theorem dX0_roomFor_40 : decode cX0_roomFor 40 = .ok (.goto (-35), 3) := by decide +kernel
theorem dX0_roomFor_43 : decode cX0_roomFor 43 = .ok (.iload_n 2, 1) := by decide +kernel
theorem dX0_roomFor_44 : decode cX0_roomFor 44 = .ok (.ireturn, 1) := by decide +kernel
set_option maxRecDepth 20000 in
theorem ggX0_shareByLaxity_X0_putIntoTurns : GoodIn wsX0_shareByLaxity wsX0_putIntoTurns := goodIn_r _ [12, 3, 13, 14, 15, 11, 16, 17, 18, 19, 20, 21, 22, 23, 4, 5, 6, 7, 24, 25, 26, 27, 28, 29, 30, 31, 32, 33, 34, 35, 36, 37, 38, 39, 40, 56, 57, 58, 59, 60, 61, 62, 63, 64, 65, 66, 67, 68, 69, 70, 71] (by decide +kernel) (by decide +kernel)
set_option maxRecDepth 20000 in
theorem gX0_shareByLaxity_X0_putIntoTurns : GoodIn wsX0_shareByLaxity (wsV RX0 163 RX0 yX0_putIntoTurns wsX0_putIntoTurns) := goodIn_app (goodIn_of _ (by decide +kernel)) ggX0_shareByLaxity_X0_putIntoTurns
set_option maxRecDepth 20000 in
theorem ggX0_shareByLaxity_X0_roomFor : GoodIn wsX0_shareByLaxity wsX0_roomFor := goodIn_r _ [44, 45, 46, 4, 5, 6, 7, 47, 48, 49, 11, 50, 28, 56, 57, 58, 59, 60, 61, 62, 63, 64, 65, 66, 67, 68, 69, 70, 71] (by decide +kernel) (by decide +kernel)
set_option maxRecDepth 20000 in
theorem gX0_shareByLaxity_X0_roomFor : GoodIn wsX0_shareByLaxity (wsV RX0 167 RX0 yX0_roomFor wsX0_roomFor) := goodIn_app (goodIn_of _ (by decide +kernel)) ggX0_shareByLaxity_X0_roomFor
set_option maxRecDepth 20000 in
theorem ggX0_shareByLaxity_X0_give : GoodIn wsX0_shareByLaxity wsX0_give := goodIn_r _ [54, 55, 46, 47, 48, 49, 11, 50, 28, 56, 57, 58, 59, 60, 61, 62, 63, 64, 65, 66, 67, 68, 69, 70, 71] (by decide +kernel) (by decide +kernel)
set_option maxRecDepth 20000 in
theorem gX0_shareByLaxity_X0_give : GoodIn wsX0_shareByLaxity (wsV RX0 170 RX0 yX0_give wsX0_give) := goodIn_app (goodIn_of _ (by decide +kernel)) ggX0_shareByLaxity_X0_give
theorem dX0_shareByLaxity_0 : decode cX0_shareByLaxity 0 = .ok (.iconst 0, 1) := by decide +kernel
theorem dX0_shareByLaxity_1 : decode cX0_shareByLaxity 1 = .ok (.istore_n 1, 1) := by decide +kernel
theorem dX0_shareByLaxity_2 : decode cX0_shareByLaxity 2 = .ok (.iconst 0, 1) := by decide +kernel
theorem dX0_shareByLaxity_3 : decode cX0_shareByLaxity 3 = .ok (.istore_n 2, 1) := by decide +kernel
theorem dX0_shareByLaxity_4 : decode cX0_shareByLaxity 4 = .ok (.iload_n 2, 1) := by decide +kernel
theorem dX0_shareByLaxity_5 : decode cX0_shareByLaxity 5 = .ok (.aload_n 0, 1) := by decide +kernel
theorem dX0_shareByLaxity_6 : decode cX0_shareByLaxity 6 = .ok (.getfield 55, 3) := by decide +kernel
theorem dX0_shareByLaxity_9 : decode cX0_shareByLaxity 9 = .ok (.if_icmp .ge 27, 3) := by decide +kernel
theorem dX0_shareByLaxity_12 : decode cX0_shareByLaxity 12 = .ok (.aload_n 0, 1) := by decide +kernel
theorem dX0_shareByLaxity_13 : decode cX0_shareByLaxity 13 = .ok (.getfield 25, 3) := by decide +kernel
theorem dX0_shareByLaxity_16 : decode cX0_shareByLaxity 16 = .ok (.iload_n 2, 1) := by decide +kernel
theorem dX0_shareByLaxity_17 : decode cX0_shareByLaxity 17 = .ok (.iaload, 1) := by decide +kernel
theorem dX0_shareByLaxity_18 : decode cX0_shareByLaxity 18 = .ok (.ifCond .le 12, 3) := by decide +kernel
theorem dX0_shareByLaxity_21 : decode cX0_shareByLaxity 21 = .ok (.aload_n 0, 1) := by decide +kernel
theorem dX0_shareByLaxity_22 : decode cX0_shareByLaxity 22 = .ok (.iload_n 2, 1) := by decide +kernel
theorem dX0_shareByLaxity_23 : decode cX0_shareByLaxity 23 = .ok (.iload_n 1, 1) := by decide +kernel
theorem dX0_shareByLaxity_24 : decode cX0_shareByLaxity 24 = .ok (.invokevirtual 163, 3) := by decide +kernel
theorem dX0_shareByLaxity_27 : decode cX0_shareByLaxity 27 = .ok (.iinc 1 1, 3) := by decide +kernel
theorem dX0_shareByLaxity_30 : decode cX0_shareByLaxity 30 = .ok (.iinc 2 1, 3) := by decide +kernel
theorem dX0_shareByLaxity_33 : decode cX0_shareByLaxity 33 = .ok (.goto (-29), 3) := by decide +kernel
theorem dX0_shareByLaxity_36 : decode cX0_shareByLaxity 36 = .ok (.iconst 0, 1) := by decide +kernel
theorem dX0_shareByLaxity_37 : decode cX0_shareByLaxity 37 = .ok (.istore_n 2, 1) := by decide +kernel
theorem dX0_shareByLaxity_38 : decode cX0_shareByLaxity 38 = .ok (.iload_n 2, 1) := by decide +kernel
theorem dX0_shareByLaxity_39 : decode cX0_shareByLaxity 39 = .ok (.iload_n 1, 1) := by decide +kernel
theorem dX0_shareByLaxity_40 : decode cX0_shareByLaxity 40 = .ok (.if_icmp .ge 35, 3) := by decide +kernel
theorem dX0_shareByLaxity_43 : decode cX0_shareByLaxity 43 = .ok (.aload_n 0, 1) := by decide +kernel
theorem dX0_shareByLaxity_44 : decode cX0_shareByLaxity 44 = .ok (.getfield 31, 3) := by decide +kernel
theorem dX0_shareByLaxity_47 : decode cX0_shareByLaxity 47 = .ok (.iload_n 2, 1) := by decide +kernel
theorem dX0_shareByLaxity_48 : decode cX0_shareByLaxity 48 = .ok (.iaload, 1) := by decide +kernel
theorem dX0_shareByLaxity_49 : decode cX0_shareByLaxity 49 = .ok (.istore_n 3, 1) := by decide +kernel
theorem dX0_shareByLaxity_50 : decode cX0_shareByLaxity 50 = .ok (.aload_n 0, 1) := by decide +kernel
theorem dX0_shareByLaxity_51 : decode cX0_shareByLaxity 51 = .ok (.iload_n 3, 1) := by decide +kernel
theorem dX0_shareByLaxity_52 : decode cX0_shareByLaxity 52 = .ok (.aload_n 0, 1) := by decide +kernel
theorem dX0_shareByLaxity_53 : decode cX0_shareByLaxity 53 = .ok (.getfield 25, 3) := by decide +kernel
theorem dX0_shareByLaxity_56 : decode cX0_shareByLaxity 56 = .ok (.iload_n 3, 1) := by decide +kernel
theorem dX0_shareByLaxity_57 : decode cX0_shareByLaxity 57 = .ok (.iaload, 1) := by decide +kernel
theorem dX0_shareByLaxity_58 : decode cX0_shareByLaxity 58 = .ok (.aload_n 0, 1) := by decide +kernel
theorem dX0_shareByLaxity_59 : decode cX0_shareByLaxity 59 = .ok (.iload_n 3, 1) := by decide +kernel
theorem dX0_shareByLaxity_60 : decode cX0_shareByLaxity 60 = .ok (.invokevirtual 167, 3) := by decide +kernel
theorem dX0_shareByLaxity_63 : decode cX0_shareByLaxity 63 = .ok (.invokestatic 132, 3) := by decide +kernel
theorem dX0_shareByLaxity_66 : decode cX0_shareByLaxity 66 = .ok (.invokevirtual 170, 3) := by decide +kernel
theorem dX0_shareByLaxity_69 : decode cX0_shareByLaxity 69 = .ok (.iinc 2 1, 3) := by decide +kernel
theorem dX0_shareByLaxity_72 : decode cX0_shareByLaxity 72 = .ok (.goto (-34), 3) := by decide +kernel
theorem dX0_shareByLaxity_75 : decode cX0_shareByLaxity 75 = .ok (.return_, 1) := by decide +kernel
set_option maxRecDepth 20000 in
theorem ggX0_putIntoTurns_X0_laxityAt : GoodIn wsX0_putIntoTurns wsX0_laxityAt := goodIn_r _ [6, 7, 8, 9, 10, 5, 11, 12, 13, 14, 15, 16, 17, 18, 19, 20, 21, 22, 23, 24, 25, 26, 27, 28, 29, 30, 31, 32, 33, 34, 35, 36, 37, 38, 39, 40, 41, 42, 43, 44, 45, 46, 47, 48, 49, 50] (by decide +kernel) (by decide +kernel)
set_option maxRecDepth 20000 in
theorem gX0_putIntoTurns_X0_laxityAt : GoodIn wsX0_putIntoTurns (wsV RX0 77 RX0 yX0_laxityAt wsX0_laxityAt) := goodIn_app (goodIn_of _ (by decide +kernel)) ggX0_putIntoTurns_X0_laxityAt
theorem dX0_putIntoTurns_0 : decode cX0_putIntoTurns 0 = .ok (.aload_n 0, 1) := by decide +kernel
theorem dX0_putIntoTurns_1 : decode cX0_putIntoTurns 1 = .ok (.iload_n 1, 1) := by decide +kernel
theorem dX0_putIntoTurns_2 : decode cX0_putIntoTurns 2 = .ok (.invokevirtual 77, 3) := by decide +kernel
theorem dX0_putIntoTurns_5 : decode cX0_putIntoTurns 5 = .ok (.istore_n 3, 1) := by decide +kernel
theorem dX0_putIntoTurns_6 : decode cX0_putIntoTurns 6 = .ok (.iload_n 2, 1) := by decide +kernel
theorem dX0_putIntoTurns_7 : decode cX0_putIntoTurns 7 = .ok (.istore 4, 2) := by decide +kernel
theorem dX0_putIntoTurns_9 : decode cX0_putIntoTurns 9 = .ok (.iload 4, 2) := by decide +kernel
theorem dX0_putIntoTurns_11 : decode cX0_putIntoTurns 11 = .ok (.ifCond .le 42, 3) := by decide +kernel
theorem dX0_putIntoTurns_14 : decode cX0_putIntoTurns 14 = .ok (.aload_n 0, 1) := by decide +kernel
theorem dX0_putIntoTurns_15 : decode cX0_putIntoTurns 15 = .ok (.aload_n 0, 1) := by decide +kernel
theorem dX0_putIntoTurns_16 : decode cX0_putIntoTurns 16 = .ok (.getfield 31, 3) := by decide +kernel
theorem dX0_putIntoTurns_19 : decode cX0_putIntoTurns 19 = .ok (.iload 4, 2) := by decide +kernel
theorem dX0_putIntoTurns_21 : decode cX0_putIntoTurns 21 = .ok (.iconst 1, 1) := by decide +kernel
theorem dX0_putIntoTurns_22 : decode cX0_putIntoTurns 22 = .ok (.isub, 1) := by decide +kernel
theorem dX0_putIntoTurns_23 : decode cX0_putIntoTurns 23 = .ok (.iaload, 1) := by decide +kernel
theorem dX0_putIntoTurns_24 : decode cX0_putIntoTurns 24 = .ok (.invokevirtual 77, 3) := by decide +kernel
theorem dX0_putIntoTurns_27 : decode cX0_putIntoTurns 27 = .ok (.iload_n 3, 1) := by decide +kernel
theorem dX0_putIntoTurns_28 : decode cX0_putIntoTurns 28 = .ok (.if_icmp .le 25, 3) := by decide +kernel
theorem dX0_putIntoTurns_31 : decode cX0_putIntoTurns 31 = .ok (.aload_n 0, 1) := by decide +kernel
theorem dX0_putIntoTurns_32 : decode cX0_putIntoTurns 32 = .ok (.getfield 31, 3) := by decide +kernel
theorem dX0_putIntoTurns_35 : decode cX0_putIntoTurns 35 = .ok (.iload 4, 2) := by decide +kernel
theorem dX0_putIntoTurns_37 : decode cX0_putIntoTurns 37 = .ok (.aload_n 0, 1) := by decide +kernel
theorem dX0_putIntoTurns_38 : decode cX0_putIntoTurns 38 = .ok (.getfield 31, 3) := by decide +kernel
theorem dX0_putIntoTurns_41 : decode cX0_putIntoTurns 41 = .ok (.iload 4, 2) := by decide +kernel
theorem dX0_putIntoTurns_43 : decode cX0_putIntoTurns 43 = .ok (.iconst 1, 1) := by decide +kernel
theorem dX0_putIntoTurns_44 : decode cX0_putIntoTurns 44 = .ok (.isub, 1) := by decide +kernel
theorem dX0_putIntoTurns_45 : decode cX0_putIntoTurns 45 = .ok (.iaload, 1) := by decide +kernel
theorem dX0_putIntoTurns_46 : decode cX0_putIntoTurns 46 = .ok (.iastore, 1) := by decide +kernel
theorem dX0_putIntoTurns_47 : decode cX0_putIntoTurns 47 = .ok (.iinc 4 (-1), 3) := by decide +kernel
theorem dX0_putIntoTurns_50 : decode cX0_putIntoTurns 50 = .ok (.goto (-41), 3) := by decide +kernel
theorem dX0_putIntoTurns_53 : decode cX0_putIntoTurns 53 = .ok (.aload_n 0, 1) := by decide +kernel
theorem dX0_putIntoTurns_54 : decode cX0_putIntoTurns 54 = .ok (.getfield 31, 3) := by decide +kernel
theorem dX0_putIntoTurns_57 : decode cX0_putIntoTurns 57 = .ok (.iload 4, 2) := by decide +kernel
theorem dX0_putIntoTurns_59 : decode cX0_putIntoTurns 59 = .ok (.iload_n 1, 1) := by decide +kernel
theorem dX0_putIntoTurns_60 : decode cX0_putIntoTurns 60 = .ok (.iastore, 1) := by decide +kernel
theorem dX0_putIntoTurns_61 : decode cX0_putIntoTurns 61 = .ok (.return_, 1) := by decide +kernel
set_option maxRecDepth 20000 in
theorem ggX0_shareFairly_X0_raiseAll : GoodIn wsX0_shareFairly wsX0_raiseAll := goodIn_r _ [5, 6, 7, 8, 9, 10, 11, 4, 12, 13, 14, 15, 16, 17, 18, 19, 20, 21, 22, 23, 24, 25, 26, 27, 28, 29, 30, 31, 32, 33, 34, 35, 36, 37, 38, 39, 40, 41, 42, 43] (by decide +kernel) (by decide +kernel)
set_option maxRecDepth 20000 in
theorem gX0_shareFairly_X0_raiseAll : GoodIn wsX0_shareFairly (wsV RX0 173 RX0 yX0_raiseAll wsX0_raiseAll) := goodIn_app (goodIn_of _ (by decide +kernel)) ggX0_shareFairly_X0_raiseAll
theorem dX0_shareFairly_0 : decode cX0_shareFairly 0 = .ok (.iconst 1, 1) := by decide +kernel
theorem dX0_shareFairly_1 : decode cX0_shareFairly 1 = .ok (.istore_n 1, 1) := by decide +kernel
theorem dX0_shareFairly_2 : decode cX0_shareFairly 2 = .ok (.iconst 0, 1) := by decide +kernel
theorem dX0_shareFairly_3 : decode cX0_shareFairly 3 = .ok (.istore_n 2, 1) := by decide +kernel
theorem dX0_shareFairly_4 : decode cX0_shareFairly 4 = .ok (.iload_n 1, 1) := by decide +kernel
theorem dX0_shareFairly_5 : decode cX0_shareFairly 5 = .ok (.ifCond .eq 20, 3) := by decide +kernel
theorem dX0_shareFairly_8 : decode cX0_shareFairly 8 = .ok (.iload_n 2, 1) := by decide +kernel
theorem dX0_shareFairly_9 : decode cX0_shareFairly 9 = .ok (.bipush 32, 2) := by decide +kernel
theorem dX0_shareFairly_11 : decode cX0_shareFairly 11 = .ok (.if_icmp .ge 14, 3) := by decide +kernel
theorem dX0_shareFairly_14 : decode cX0_shareFairly 14 = .ok (.aload_n 0, 1) := by decide +kernel
theorem dX0_shareFairly_15 : decode cX0_shareFairly 15 = .ok (.invokevirtual 173, 3) := by decide +kernel
theorem dX0_shareFairly_18 : decode cX0_shareFairly 18 = .ok (.istore_n 1, 1) := by decide +kernel
theorem dX0_shareFairly_19 : decode cX0_shareFairly 19 = .ok (.iinc 2 1, 3) := by decide +kernel
theorem dX0_shareFairly_22 : decode cX0_shareFairly 22 = .ok (.goto (-18), 3) := by decide +kernel
theorem dX0_shareFairly_25 : decode cX0_shareFairly 25 = .ok (.return_, 1) := by decide +kernel
set_option maxRecDepth 20000 in
theorem ggX0_raiseAll_X0_roomFor : GoodIn wsX0_raiseAll wsX0_roomFor := goodIn_r _ [8, 9, 10, 11, 12, 13, 14, 15, 16, 17, 7, 18, 19, 24, 25, 26, 27, 28, 29, 30, 31, 32, 33, 34, 35, 36, 37, 38, 39] (by decide +kernel) (by decide +kernel)
set_option maxRecDepth 20000 in
theorem gX0_raiseAll_X0_roomFor : GoodIn wsX0_raiseAll (wsV RX0 167 RX0 yX0_roomFor wsX0_roomFor) := goodIn_app (goodIn_of _ (by decide +kernel)) ggX0_raiseAll_X0_roomFor
set_option maxRecDepth 20000 in
theorem ggX0_raiseAll_X0_give : GoodIn wsX0_raiseAll wsX0_give := goodIn_r _ [23, 2, 10, 15, 16, 17, 7, 18, 19, 24, 25, 26, 27, 28, 29, 30, 31, 32, 33, 34, 35, 36, 37, 38, 39] (by decide +kernel) (by decide +kernel)
set_option maxRecDepth 20000 in
theorem gX0_raiseAll_X0_give : GoodIn wsX0_raiseAll (wsV RX0 170 RX0 yX0_give wsX0_give) := goodIn_app (goodIn_of _ (by decide +kernel)) ggX0_raiseAll_X0_give
theorem dX0_raiseAll_0 : decode cX0_raiseAll 0 = .ok (.iconst 0, 1) := by decide +kernel
theorem dX0_raiseAll_1 : decode cX0_raiseAll 1 = .ok (.istore_n 1, 1) := by decide +kernel
theorem dX0_raiseAll_2 : decode cX0_raiseAll 2 = .ok (.iconst 0, 1) := by decide +kernel
theorem dX0_raiseAll_3 : decode cX0_raiseAll 3 = .ok (.istore_n 2, 1) := by decide +kernel
theorem dX0_raiseAll_4 : decode cX0_raiseAll 4 = .ok (.iload_n 2, 1) := by decide +kernel
theorem dX0_raiseAll_5 : decode cX0_raiseAll 5 = .ok (.aload_n 0, 1) := by decide +kernel
theorem dX0_raiseAll_6 : decode cX0_raiseAll 6 = .ok (.getfield 55, 3) := by decide +kernel
theorem dX0_raiseAll_9 : decode cX0_raiseAll 9 = .ok (.if_icmp .ge 40, 3) := by decide +kernel
theorem dX0_raiseAll_12 : decode cX0_raiseAll 12 = .ok (.aload_n 0, 1) := by decide +kernel
theorem dX0_raiseAll_13 : decode cX0_raiseAll 13 = .ok (.getfield 28, 3) := by decide +kernel
theorem dX0_raiseAll_16 : decode cX0_raiseAll 16 = .ok (.iload_n 2, 1) := by decide +kernel
theorem dX0_raiseAll_17 : decode cX0_raiseAll 17 = .ok (.iaload, 1) := by decide +kernel
theorem dX0_raiseAll_18 : decode cX0_raiseAll 18 = .ok (.aload_n 0, 1) := by decide +kernel
theorem dX0_raiseAll_19 : decode cX0_raiseAll 19 = .ok (.getfield 25, 3) := by decide +kernel
theorem dX0_raiseAll_22 : decode cX0_raiseAll 22 = .ok (.iload_n 2, 1) := by decide +kernel
theorem dX0_raiseAll_23 : decode cX0_raiseAll 23 = .ok (.iaload, 1) := by decide +kernel
theorem dX0_raiseAll_24 : decode cX0_raiseAll 24 = .ok (.if_icmp .ge 19, 3) := by decide +kernel
theorem dX0_raiseAll_27 : decode cX0_raiseAll 27 = .ok (.aload_n 0, 1) := by decide +kernel
theorem dX0_raiseAll_28 : decode cX0_raiseAll 28 = .ok (.iload_n 2, 1) := by decide +kernel
theorem dX0_raiseAll_29 : decode cX0_raiseAll 29 = .ok (.invokevirtual 167, 3) := by decide +kernel
theorem dX0_raiseAll_32 : decode cX0_raiseAll 32 = .ok (.ifCond .le 11, 3) := by decide +kernel
theorem dX0_raiseAll_35 : decode cX0_raiseAll 35 = .ok (.aload_n 0, 1) := by decide +kernel
theorem dX0_raiseAll_36 : decode cX0_raiseAll 36 = .ok (.iload_n 2, 1) := by decide +kernel
theorem dX0_raiseAll_37 : decode cX0_raiseAll 37 = .ok (.iconst 1, 1) := by decide +kernel
theorem dX0_raiseAll_38 : decode cX0_raiseAll 38 = .ok (.invokevirtual 170, 3) := by decide +kernel
theorem dX0_raiseAll_41 : decode cX0_raiseAll 41 = .ok (.iconst 1, 1) := by decide +kernel
theorem dX0_raiseAll_42 : decode cX0_raiseAll 42 = .ok (.istore_n 1, 1) := by decide +kernel
theorem dX0_raiseAll_43 : decode cX0_raiseAll 43 = .ok (.iinc 2 1, 3) := by decide +kernel
theorem dX0_raiseAll_46 : decode cX0_raiseAll 46 = .ok (.goto (-42), 3) := by decide +kernel
theorem dX0_raiseAll_49 : decode cX0_raiseAll 49 = .ok (.iload_n 1, 1) := by decide +kernel
theorem dX0_raiseAll_50 : decode cX0_raiseAll 50 = .ok (.ireturn, 1) := by decide +kernel
set_option maxRecDepth 20000 in
theorem ggX0_keepBalance_X0_differenceOfLoads : GoodIn wsX0_keepBalance wsX0_differenceOfLoads := goodIn_r _ [6, 7, 8, 9, 10, 11, 12, 13, 14, 34, 35, 36, 37, 38, 39, 40, 41, 42, 43, 44, 45, 46, 47, 48, 49] (by decide +kernel) (by decide +kernel)
set_option maxRecDepth 20000 in
theorem gX0_keepBalance_X0_differenceOfLoads : GoodIn wsX0_keepBalance (wsV RX0 108 RX0 yX0_differenceOfLoads wsX0_differenceOfLoads) := goodIn_app (goodIn_of _ (by decide +kernel)) ggX0_keepBalance_X0_differenceOfLoads
set_option maxRecDepth 20000 in
theorem ggX0_keepBalance_X0_phaseOfGreatestLoad : GoodIn wsX0_keepBalance wsX0_phaseOfGreatestLoad := goodIn_r _ [18, 7, 34, 35, 36, 37, 38, 39, 40, 41, 42, 43, 44, 45, 46, 47, 48, 49] (by decide +kernel) (by decide +kernel)
set_option maxRecDepth 20000 in
theorem gX0_keepBalance_X0_phaseOfGreatestLoad : GoodIn wsX0_keepBalance (wsV RX0 177 RX0 yX0_phaseOfGreatestLoad wsX0_phaseOfGreatestLoad) := goodIn_app (goodIn_of _ (by decide +kernel)) ggX0_keepBalance_X0_phaseOfGreatestLoad
set_option maxRecDepth 20000 in
theorem ggX0_keepBalance_X0_mostGivenAloneAt : GoodIn wsX0_keepBalance wsX0_mostGivenAloneAt := goodIn_r _ [22, 23, 24, 25, 34, 35, 36, 37, 38, 39, 40, 41, 42, 43, 44, 45, 46, 47, 48, 49] (by decide +kernel) (by decide +kernel)
set_option maxRecDepth 20000 in
theorem gX0_keepBalance_X0_mostGivenAloneAt : GoodIn wsX0_keepBalance (wsV RX0 180 RX0 yX0_mostGivenAloneAt wsX0_mostGivenAloneAt) := goodIn_app (goodIn_of _ (by decide +kernel)) ggX0_keepBalance_X0_mostGivenAloneAt
set_option maxRecDepth 20000 in
theorem ggX0_keepBalance_X0_give : GoodIn wsX0_keepBalance wsX0_give := goodIn_r _ [29, 25, 7, 30, 31, 32, 5, 33, 24, 34, 35, 36, 37, 38, 39, 40, 41, 42, 43, 44, 45, 46, 47, 48, 49] (by decide +kernel) (by decide +kernel)
set_option maxRecDepth 20000 in
theorem gX0_keepBalance_X0_give : GoodIn wsX0_keepBalance (wsV RX0 170 RX0 yX0_give wsX0_give) := goodIn_app (goodIn_of _ (by decide +kernel)) ggX0_keepBalance_X0_give
theorem dX0_keepBalance_0 : decode cX0_keepBalance 0 = .ok (.iconst 0, 1) := by decide +kernel
theorem dX0_keepBalance_1 : decode cX0_keepBalance 1 = .ok (.istore_n 1, 1) := by decide +kernel
theorem dX0_keepBalance_2 : decode cX0_keepBalance 2 = .ok (.iload_n 1, 1) := by decide +kernel
theorem dX0_keepBalance_3 : decode cX0_keepBalance 3 = .ok (.sipush 256, 3) := by decide +kernel
theorem dX0_keepBalance_6 : decode cX0_keepBalance 6 = .ok (.if_icmp .ge 42, 3) := by decide +kernel
theorem dX0_keepBalance_9 : decode cX0_keepBalance 9 = .ok (.aload_n 0, 1) := by decide +kernel
theorem dX0_keepBalance_10 : decode cX0_keepBalance 10 = .ok (.invokevirtual 108, 3) := by decide +kernel
theorem dX0_keepBalance_13 : decode cX0_keepBalance 13 = .ok (.aload_n 0, 1) := by decide +kernel
theorem dX0_keepBalance_14 : decode cX0_keepBalance 14 = .ok (.getfield 40, 3) := by decide +kernel
theorem dX0_keepBalance_17 : decode cX0_keepBalance 17 = .ok (.if_icmp .gt 4, 3) := by decide +kernel
theorem dX0_keepBalance_20 : decode cX0_keepBalance 20 = .ok (.return_, 1) := by decide +kernel
theorem dX0_keepBalance_21 : decode cX0_keepBalance 21 = .ok (.aload_n 0, 1) := by decide +kernel
theorem dX0_keepBalance_22 : decode cX0_keepBalance 22 = .ok (.aload_n 0, 1) := by decide +kernel
theorem dX0_keepBalance_23 : decode cX0_keepBalance 23 = .ok (.invokevirtual 177, 3) := by decide +kernel
theorem dX0_keepBalance_26 : decode cX0_keepBalance 26 = .ok (.invokevirtual 180, 3) := by decide +kernel
theorem dX0_keepBalance_29 : decode cX0_keepBalance 29 = .ok (.istore_n 2, 1) := by decide +kernel
theorem dX0_keepBalance_30 : decode cX0_keepBalance 30 = .ok (.iload_n 2, 1) := by decide +kernel
theorem dX0_keepBalance_31 : decode cX0_keepBalance 31 = .ok (.iconst (-1), 1) := by decide +kernel
theorem dX0_keepBalance_32 : decode cX0_keepBalance 32 = .ok (.if_icmp .ne 4, 3) := by decide +kernel
theorem dX0_keepBalance_35 : decode cX0_keepBalance 35 = .ok (.return_, 1) := by decide +kernel
theorem dX0_keepBalance_36 : decode cX0_keepBalance 36 = .ok (.aload_n 0, 1) := by decide +kernel
theorem dX0_keepBalance_37 : decode cX0_keepBalance 37 = .ok (.iload_n 2, 1) := by decide +kernel
theorem dX0_keepBalance_38 : decode cX0_keepBalance 38 = .ok (.iconst (-1), 1) := by decide +kernel
theorem dX0_keepBalance_39 : decode cX0_keepBalance 39 = .ok (.invokevirtual 170, 3) := by decide +kernel
theorem dX0_keepBalance_42 : decode cX0_keepBalance 42 = .ok (.iinc 1 1, 3) := by decide +kernel
theorem dX0_keepBalance_45 : decode cX0_keepBalance 45 = .ok (.goto (-43), 3) := by decide +kernel
theorem dX0_keepBalance_48 : decode cX0_keepBalance 48 = .ok (.return_, 1) := by decide +kernel
theorem dX0_differenceOfLoads_0 : decode cX0_differenceOfLoads 0 = .ok (.aload_n 0, 1) := by decide +kernel
theorem dX0_differenceOfLoads_1 : decode cX0_differenceOfLoads 1 = .ok (.getfield 34, 3) := by decide +kernel
theorem dX0_differenceOfLoads_4 : decode cX0_differenceOfLoads 4 = .ok (.iconst 0, 1) := by decide +kernel
theorem dX0_differenceOfLoads_5 : decode cX0_differenceOfLoads 5 = .ok (.iaload, 1) := by decide +kernel
theorem dX0_differenceOfLoads_6 : decode cX0_differenceOfLoads 6 = .ok (.aload_n 0, 1) := by decide +kernel
theorem dX0_differenceOfLoads_7 : decode cX0_differenceOfLoads 7 = .ok (.getfield 34, 3) := by decide +kernel
theorem dX0_differenceOfLoads_10 : decode cX0_differenceOfLoads 10 = .ok (.iconst 1, 1) := by decide +kernel
theorem dX0_differenceOfLoads_11 : decode cX0_differenceOfLoads 11 = .ok (.iaload, 1) := by decide +kernel
theorem dX0_differenceOfLoads_12 : decode cX0_differenceOfLoads 12 = .ok (.aload_n 0, 1) := by decide +kernel
theorem dX0_differenceOfLoads_13 : decode cX0_differenceOfLoads 13 = .ok (.getfield 34, 3) := by decide +kernel
theorem dX0_differenceOfLoads_16 : decode cX0_differenceOfLoads 16 = .ok (.iconst 2, 1) := by decide +kernel
theorem dX0_differenceOfLoads_17 : decode cX0_differenceOfLoads 17 = .ok (.iaload, 1) := by decide +kernel
theorem dX0_differenceOfLoads_18 : decode cX0_differenceOfLoads 18 = .ok (.invokestatic 87, 3) := by decide +kernel
theorem dX0_differenceOfLoads_21 : decode cX0_differenceOfLoads 21 = .ok (.invokestatic 87, 3) := by decide +kernel
theorem dX0_differenceOfLoads_24 : decode cX0_differenceOfLoads 24 = .ok (.istore_n 1, 1) := by decide +kernel
theorem dX0_differenceOfLoads_25 : decode cX0_differenceOfLoads 25 = .ok (.aload_n 0, 1) := by decide +kernel
theorem dX0_differenceOfLoads_26 : decode cX0_differenceOfLoads 26 = .ok (.getfield 34, 3) := by decide +kernel
theorem dX0_differenceOfLoads_29 : decode cX0_differenceOfLoads 29 = .ok (.iconst 0, 1) := by decide +kernel
theorem dX0_differenceOfLoads_30 : decode cX0_differenceOfLoads 30 = .ok (.iaload, 1) := by decide +kernel
theorem dX0_differenceOfLoads_31 : decode cX0_differenceOfLoads 31 = .ok (.aload_n 0, 1) := by decide +kernel
theorem dX0_differenceOfLoads_32 : decode cX0_differenceOfLoads 32 = .ok (.getfield 34, 3) := by decide +kernel
theorem dX0_differenceOfLoads_35 : decode cX0_differenceOfLoads 35 = .ok (.iconst 1, 1) := by decide +kernel
theorem dX0_differenceOfLoads_36 : decode cX0_differenceOfLoads 36 = .ok (.iaload, 1) := by decide +kernel
theorem dX0_differenceOfLoads_37 : decode cX0_differenceOfLoads 37 = .ok (.aload_n 0, 1) := by decide +kernel
theorem dX0_differenceOfLoads_38 : decode cX0_differenceOfLoads 38 = .ok (.getfield 34, 3) := by decide +kernel
theorem dX0_differenceOfLoads_41 : decode cX0_differenceOfLoads 41 = .ok (.iconst 2, 1) := by decide +kernel
theorem dX0_differenceOfLoads_42 : decode cX0_differenceOfLoads 42 = .ok (.iaload, 1) := by decide +kernel
theorem dX0_differenceOfLoads_43 : decode cX0_differenceOfLoads 43 = .ok (.invokestatic 132, 3) := by decide +kernel
theorem dX0_differenceOfLoads_46 : decode cX0_differenceOfLoads 46 = .ok (.invokestatic 132, 3) := by decide +kernel
theorem dX0_differenceOfLoads_49 : decode cX0_differenceOfLoads 49 = .ok (.istore_n 2, 1) := by decide +kernel
theorem dX0_differenceOfLoads_50 : decode cX0_differenceOfLoads 50 = .ok (.iload_n 1, 1) := by decide +kernel
theorem dX0_differenceOfLoads_51 : decode cX0_differenceOfLoads 51 = .ok (.iload_n 2, 1) := by decide +kernel
theorem dX0_differenceOfLoads_52 : decode cX0_differenceOfLoads 52 = .ok (.isub, 1) := by decide +kernel
theorem dX0_differenceOfLoads_53 : decode cX0_differenceOfLoads 53 = .ok (.ireturn, 1) := by decide +kernel
theorem dX0_phaseOfGreatestLoad_0 : decode cX0_phaseOfGreatestLoad 0 = .ok (.iconst 0, 1) := by decide +kernel
theorem dX0_phaseOfGreatestLoad_1 : decode cX0_phaseOfGreatestLoad 1 = .ok (.istore_n 1, 1) := by decide +kernel
theorem dX0_phaseOfGreatestLoad_2 : decode cX0_phaseOfGreatestLoad 2 = .ok (.iconst 1, 1) := by decide +kernel
theorem dX0_phaseOfGreatestLoad_3 : decode cX0_phaseOfGreatestLoad 3 = .ok (.istore_n 2, 1) := by decide +kernel
theorem dX0_phaseOfGreatestLoad_4 : decode cX0_phaseOfGreatestLoad 4 = .ok (.iload_n 2, 1) := by decide +kernel
theorem dX0_phaseOfGreatestLoad_5 : decode cX0_phaseOfGreatestLoad 5 = .ok (.iconst 3, 1) := by decide +kernel
theorem dX0_phaseOfGreatestLoad_6 : decode cX0_phaseOfGreatestLoad 6 = .ok (.if_icmp .ge 26, 3) := by decide +kernel
theorem dX0_phaseOfGreatestLoad_9 : decode cX0_phaseOfGreatestLoad 9 = .ok (.aload_n 0, 1) := by decide +kernel
theorem dX0_phaseOfGreatestLoad_10 : decode cX0_phaseOfGreatestLoad 10 = .ok (.getfield 34, 3) := by decide +kernel
theorem dX0_phaseOfGreatestLoad_13 : decode cX0_phaseOfGreatestLoad 13 = .ok (.iload_n 2, 1) := by decide +kernel
theorem dX0_phaseOfGreatestLoad_14 : decode cX0_phaseOfGreatestLoad 14 = .ok (.iaload, 1) := by decide +kernel
theorem dX0_phaseOfGreatestLoad_15 : decode cX0_phaseOfGreatestLoad 15 = .ok (.aload_n 0, 1) := by decide +kernel
theorem dX0_phaseOfGreatestLoad_16 : decode cX0_phaseOfGreatestLoad 16 = .ok (.getfield 34, 3) := by decide +kernel
theorem dX0_phaseOfGreatestLoad_19 : decode cX0_phaseOfGreatestLoad 19 = .ok (.iload_n 1, 1) := by decide +kernel
theorem dX0_phaseOfGreatestLoad_20 : decode cX0_phaseOfGreatestLoad 20 = .ok (.iaload, 1) := by decide +kernel
theorem dX0_phaseOfGreatestLoad_21 : decode cX0_phaseOfGreatestLoad 21 = .ok (.if_icmp .le 5, 3) := by decide +kernel
theorem dX0_phaseOfGreatestLoad_24 : decode cX0_phaseOfGreatestLoad 24 = .ok (.iload_n 2, 1) := by decide +kernel
theorem dX0_phaseOfGreatestLoad_25 : decode cX0_phaseOfGreatestLoad 25 = .ok (.istore_n 1, 1) := by decide +kernel
theorem dX0_phaseOfGreatestLoad_26 : decode cX0_phaseOfGreatestLoad 26 = .ok (.iinc 2 1, 3) := by decide +kernel
theorem dX0_phaseOfGreatestLoad_29 : decode cX0_phaseOfGreatestLoad 29 = .ok (.goto (-25), 3) := by decide +kernel
theorem dX0_phaseOfGreatestLoad_32 : decode cX0_phaseOfGreatestLoad 32 = .ok (.iload_n 1, 1) := by decide +kernel
theorem dX0_phaseOfGreatestLoad_33 : decode cX0_phaseOfGreatestLoad 33 = .ok (.ireturn, 1) := by decide +kernel
theorem dX0_mostGivenAloneAt_0 : decode cX0_mostGivenAloneAt 0 = .ok (.iconst (-1), 1) := by decide +kernel
theorem dX0_mostGivenAloneAt_1 : decode cX0_mostGivenAloneAt 1 = .ok (.istore_n 2, 1) := by decide +kernel
theorem dX0_mostGivenAloneAt_2 : decode cX0_mostGivenAloneAt 2 = .ok (.iconst 1, 1) := by decide +kernel
theorem dX0_mostGivenAloneAt_3 : decode cX0_mostGivenAloneAt 3 = .ok (.istore_n 3, 1) := by decide +kernel
theorem dX0_mostGivenAloneAt_4 : decode cX0_mostGivenAloneAt 4 = .ok (.iconst 0, 1) := by decide +kernel
theorem dX0_mostGivenAloneAt_5 : decode cX0_mostGivenAloneAt 5 = .ok (.istore 4, 2) := by decide +kernel
theorem dX0_mostGivenAloneAt_7 : decode cX0_mostGivenAloneAt 7 = .ok (.iload 4, 2) := by decide +kernel
theorem dX0_mostGivenAloneAt_9 : decode cX0_mostGivenAloneAt 9 = .ok (.aload_n 0, 1) := by decide +kernel
theorem dX0_mostGivenAloneAt_10 : decode cX0_mostGivenAloneAt 10 = .ok (.getfield 55, 3) := by decide +kernel
theorem dX0_mostGivenAloneAt_13 : decode cX0_mostGivenAloneAt 13 = .ok (.if_icmp .ge 42, 3) := by decide +kernel
theorem dX0_mostGivenAloneAt_16 : decode cX0_mostGivenAloneAt 16 = .ok (.aload_n 0, 1) := by decide +kernel
theorem dX0_mostGivenAloneAt_17 : decode cX0_mostGivenAloneAt 17 = .ok (.getfield 9, 3) := by decide +kernel
theorem dX0_mostGivenAloneAt_20 : decode cX0_mostGivenAloneAt 20 = .ok (.iload 4, 2) := by decide +kernel
theorem dX0_mostGivenAloneAt_22 : decode cX0_mostGivenAloneAt 22 = .ok (.iaload, 1) := by decide +kernel
theorem dX0_mostGivenAloneAt_23 : decode cX0_mostGivenAloneAt 23 = .ok (.iload_n 1, 1) := by decide +kernel
theorem dX0_mostGivenAloneAt_24 : decode cX0_mostGivenAloneAt 24 = .ok (.if_icmp .ne 25, 3) := by decide +kernel
theorem dX0_mostGivenAloneAt_27 : decode cX0_mostGivenAloneAt 27 = .ok (.aload_n 0, 1) := by decide +kernel
theorem dX0_mostGivenAloneAt_28 : decode cX0_mostGivenAloneAt 28 = .ok (.getfield 28, 3) := by decide +kernel
theorem dX0_mostGivenAloneAt_31 : decode cX0_mostGivenAloneAt 31 = .ok (.iload 4, 2) := by decide +kernel
theorem dX0_mostGivenAloneAt_33 : decode cX0_mostGivenAloneAt 33 = .ok (.iaload, 1) := by decide +kernel
theorem dX0_mostGivenAloneAt_34 : decode cX0_mostGivenAloneAt 34 = .ok (.iload_n 3, 1) := by decide +kernel
theorem dX0_mostGivenAloneAt_35 : decode cX0_mostGivenAloneAt 35 = .ok (.if_icmp .lt 14, 3) := by decide +kernel
theorem dX0_mostGivenAloneAt_38 : decode cX0_mostGivenAloneAt 38 = .ok (.iload 4, 2) := by decide +kernel
theorem dX0_mostGivenAloneAt_40 : decode cX0_mostGivenAloneAt 40 = .ok (.istore_n 2, 1) := by decide +kernel
theorem dX0_mostGivenAloneAt_41 : decode cX0_mostGivenAloneAt 41 = .ok (.aload_n 0, 1) := by decide +kernel
theorem dX0_mostGivenAloneAt_42 : decode cX0_mostGivenAloneAt 42 = .ok (.getfield 28, 3) := by decide +kernel
theorem dX0_mostGivenAloneAt_45 : decode cX0_mostGivenAloneAt 45 = .ok (.iload 4, 2) := by decide +kernel
theorem dX0_mostGivenAloneAt_47 : decode cX0_mostGivenAloneAt 47 = .ok (.iaload, 1) := by decide +kernel
theorem dX0_mostGivenAloneAt_48 : decode cX0_mostGivenAloneAt 48 = .ok (.istore_n 3, 1) := by decide +kernel
theorem dX0_mostGivenAloneAt_49 : decode cX0_mostGivenAloneAt 49 = .ok (.iinc 4 1, 3) := by decide +kernel
theorem dX0_mostGivenAloneAt_52 : decode cX0_mostGivenAloneAt 52 = .ok (.goto (-45), 3) := by decide +kernel
theorem dX0_mostGivenAloneAt_55 : decode cX0_mostGivenAloneAt 55 = .ok (.iload_n 2, 1) := by decide +kernel
theorem dX0_mostGivenAloneAt_56 : decode cX0_mostGivenAloneAt 56 = .ok (.ireturn, 1) := by decide +kernel
theorem dX0_givenAtAllPhases_0 : decode cX0_givenAtAllPhases 0 = .ok (.iconst 0, 1) := by decide +kernel
theorem dX0_givenAtAllPhases_1 : decode cX0_givenAtAllPhases 1 = .ok (.istore_n 1, 1) := by decide +kernel
theorem dX0_givenAtAllPhases_2 : decode cX0_givenAtAllPhases 2 = .ok (.iconst 0, 1) := by decide +kernel
theorem dX0_givenAtAllPhases_3 : decode cX0_givenAtAllPhases 3 = .ok (.istore_n 2, 1) := by decide +kernel
theorem dX0_givenAtAllPhases_4 : decode cX0_givenAtAllPhases 4 = .ok (.iload_n 2, 1) := by decide +kernel
theorem dX0_givenAtAllPhases_5 : decode cX0_givenAtAllPhases 5 = .ok (.aload_n 0, 1) := by decide +kernel
theorem dX0_givenAtAllPhases_6 : decode cX0_givenAtAllPhases 6 = .ok (.getfield 55, 3) := by decide +kernel
theorem dX0_givenAtAllPhases_9 : decode cX0_givenAtAllPhases 9 = .ok (.if_icmp .ge 28, 3) := by decide +kernel
theorem dX0_givenAtAllPhases_12 : decode cX0_givenAtAllPhases 12 = .ok (.aload_n 0, 1) := by decide +kernel
theorem dX0_givenAtAllPhases_13 : decode cX0_givenAtAllPhases 13 = .ok (.getfield 9, 3) := by decide +kernel
theorem dX0_givenAtAllPhases_16 : decode cX0_givenAtAllPhases 16 = .ok (.iload_n 2, 1) := by decide +kernel
theorem dX0_givenAtAllPhases_17 : decode cX0_givenAtAllPhases 17 = .ok (.iaload, 1) := by decide +kernel
theorem dX0_givenAtAllPhases_18 : decode cX0_givenAtAllPhases 18 = .ok (.iconst 3, 1) := by decide +kernel
theorem dX0_givenAtAllPhases_19 : decode cX0_givenAtAllPhases 19 = .ok (.if_icmp .ne 12, 3) := by decide +kernel
theorem dX0_givenAtAllPhases_22 : decode cX0_givenAtAllPhases 22 = .ok (.iload_n 1, 1) := by decide +kernel
theorem dX0_givenAtAllPhases_23 : decode cX0_givenAtAllPhases 23 = .ok (.aload_n 0, 1) := by decide +kernel
theorem dX0_givenAtAllPhases_24 : decode cX0_givenAtAllPhases 24 = .ok (.getfield 28, 3) := by decide +kernel
theorem dX0_givenAtAllPhases_27 : decode cX0_givenAtAllPhases 27 = .ok (.iload_n 2, 1) := by decide +kernel
theorem dX0_givenAtAllPhases_28 : decode cX0_givenAtAllPhases 28 = .ok (.iaload, 1) := by decide +kernel
theorem dX0_givenAtAllPhases_29 : decode cX0_givenAtAllPhases 29 = .ok (.iadd, 1) := by decide +kernel
theorem dX0_givenAtAllPhases_30 : decode cX0_givenAtAllPhases 30 = .ok (.istore_n 1, 1) := by decide +kernel
theorem dX0_givenAtAllPhases_31 : decode cX0_givenAtAllPhases 31 = .ok (.iinc 2 1, 3) := by decide +kernel
theorem dX0_givenAtAllPhases_34 : decode cX0_givenAtAllPhases 34 = .ok (.goto (-30), 3) := by decide +kernel
theorem dX0_givenAtAllPhases_37 : decode cX0_givenAtAllPhases 37 = .ok (.iload_n 1, 1) := by decide +kernel
theorem dX0_givenAtAllPhases_38 : decode cX0_givenAtAllPhases 38 = .ok (.ireturn, 1) := by decide +kernel
theorem dX0_usedAtLevel_0 : decode cX0_usedAtLevel 0 = .ok (.iconst 0, 1) := by decide +kernel
theorem dX0_usedAtLevel_1 : decode cX0_usedAtLevel 1 = .ok (.istore_n 3, 1) := by decide +kernel
theorem dX0_usedAtLevel_2 : decode cX0_usedAtLevel 2 = .ok (.iconst 0, 1) := by decide +kernel
theorem dX0_usedAtLevel_3 : decode cX0_usedAtLevel 3 = .ok (.istore 4, 2) := by decide +kernel
theorem dX0_usedAtLevel_5 : decode cX0_usedAtLevel 5 = .ok (.iload 4, 2) := by decide +kernel
theorem dX0_usedAtLevel_7 : decode cX0_usedAtLevel 7 = .ok (.aload_n 0, 1) := by decide +kernel
theorem dX0_usedAtLevel_8 : decode cX0_usedAtLevel 8 = .ok (.getfield 55, 3) := by decide +kernel
theorem dX0_usedAtLevel_11 : decode cX0_usedAtLevel 11 = .ok (.if_icmp .ge 34, 3) := by decide +kernel
theorem dX0_usedAtLevel_14 : decode cX0_usedAtLevel 14 = .ok (.aload_n 0, 1) := by decide +kernel
theorem dX0_usedAtLevel_15 : decode cX0_usedAtLevel 15 = .ok (.getfield 9, 3) := by decide +kernel
theorem dX0_usedAtLevel_18 : decode cX0_usedAtLevel 18 = .ok (.iload 4, 2) := by decide +kernel
theorem dX0_usedAtLevel_20 : decode cX0_usedAtLevel 20 = .ok (.iaload, 1) := by decide +kernel
theorem dX0_usedAtLevel_21 : decode cX0_usedAtLevel 21 = .ok (.iload_n 1, 1) := by decide +kernel
theorem dX0_usedAtLevel_22 : decode cX0_usedAtLevel 22 = .ok (.if_icmp .ne 17, 3) := by decide +kernel
theorem dX0_usedAtLevel_25 : decode cX0_usedAtLevel 25 = .ok (.iload_n 3, 1) := by decide +kernel
theorem dX0_usedAtLevel_26 : decode cX0_usedAtLevel 26 = .ok (.aload_n 0, 1) := by decide +kernel
theorem dX0_usedAtLevel_27 : decode cX0_usedAtLevel 27 = .ok (.getfield 25, 3) := by decide +kernel
theorem dX0_usedAtLevel_30 : decode cX0_usedAtLevel 30 = .ok (.iload 4, 2) := by decide +kernel
theorem dX0_usedAtLevel_32 : decode cX0_usedAtLevel 32 = .ok (.iaload, 1) := by decide +kernel
theorem dX0_usedAtLevel_33 : decode cX0_usedAtLevel 33 = .ok (.iload_n 2, 1) := by decide +kernel
theorem dX0_usedAtLevel_34 : decode cX0_usedAtLevel 34 = .ok (.invokestatic 132, 3) := by decide +kernel
theorem dX0_usedAtLevel_37 : decode cX0_usedAtLevel 37 = .ok (.iadd, 1) := by decide +kernel
theorem dX0_usedAtLevel_38 : decode cX0_usedAtLevel 38 = .ok (.istore_n 3, 1) := by decide +kernel
theorem dX0_usedAtLevel_39 : decode cX0_usedAtLevel 39 = .ok (.iinc 4 1, 3) := by decide +kernel
theorem dX0_usedAtLevel_42 : decode cX0_usedAtLevel 42 = .ok (.goto (-37), 3) := by decide +kernel
theorem dX0_usedAtLevel_45 : decode cX0_usedAtLevel 45 = .ok (.iload_n 3, 1) := by decide +kernel
theorem dX0_usedAtLevel_46 : decode cX0_usedAtLevel 46 = .ok (.ireturn, 1) := by decide +kernel
theorem dJ9_max_7cf53_0 : decode cJ9_max_7cf53 0 = .ok (.iload_n 0, 1) := by decide +kernel
theorem dJ9_max_7cf53_1 : decode cJ9_max_7cf53 1 = .ok (.iload_n 1, 1) := by decide +kernel
theorem dJ9_max_7cf53_2 : decode cJ9_max_7cf53 2 = .ok (.if_icmp .lt 7, 3) := by decide +kernel
theorem dJ9_max_7cf53_5 : decode cJ9_max_7cf53 5 = .ok (.iload_n 0, 1) := by decide +kernel
theorem dJ9_max_7cf53_6 : decode cJ9_max_7cf53 6 = .ok (.goto 4, 3) := by decide +kernel
theorem dJ9_max_7cf53_9 : decode cJ9_max_7cf53 9 = .ok (.iload_n 1, 1) := by decide +kernel
theorem dJ9_max_7cf53_10 : decode cJ9_max_7cf53 10 = .ok (.ireturn, 1) := by decide +kernel
theorem dJ9_min_7cf53_0 : decode cJ9_min_7cf53 0 = .ok (.iload_n 0, 1) := by decide +kernel
theorem dJ9_min_7cf53_1 : decode cJ9_min_7cf53 1 = .ok (.iload_n 1, 1) := by decide +kernel
theorem dJ9_min_7cf53_2 : decode cJ9_min_7cf53 2 = .ok (.if_icmp .gt 7, 3) := by decide +kernel
theorem dJ9_min_7cf53_5 : decode cJ9_min_7cf53 5 = .ok (.iload_n 0, 1) := by decide +kernel
theorem dJ9_min_7cf53_6 : decode cJ9_min_7cf53 6 = .ok (.goto 4, 3) := by decide +kernel
theorem dJ9_min_7cf53_9 : decode cJ9_min_7cf53 9 = .ok (.iload_n 1, 1) := by decide +kernel
theorem dJ9_min_7cf53_10 : decode cJ9_min_7cf53 10 = .ok (.ireturn, 1) := by decide +kernel
