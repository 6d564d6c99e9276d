theorem dX1_init_0 : decode cX1_init 0 = .ok (.aload_n 0, 1) := by decide +kernel
theorem dX1_init_1 : decode cX1_init 1 = .ok (.invokespecial 1, 3) := by decide +kernel
theorem dX1_init_4 : decode cX1_init 4 = .ok (.aload_n 0, 1) := by decide +kernel
theorem dX1_init_5 : decode cX1_init 5 = .ok (.bipush 8, 2) := by decide +kernel
theorem dX1_init_7 : decode cX1_init 7 = .ok (.newarray .int, 2) := by decide +kernel
theorem dX1_init_9 : decode cX1_init 9 = .ok (.putfield 7, 3) := by decide +kernel
theorem dX1_init_12 : decode cX1_init 12 = .ok (.aload_n 0, 1) := by decide +kernel
theorem dX1_init_13 : decode cX1_init 13 = .ok (.bipush 8, 2) := by decide +kernel
theorem dX1_init_15 : decode cX1_init 15 = .ok (.newarray .int, 2) := by decide +kernel
theorem dX1_init_17 : decode cX1_init 17 = .ok (.putfield 13, 3) := by decide +kernel
theorem dX1_init_20 : decode cX1_init 20 = .ok (.aload_n 0, 1) := by decide +kernel
theorem dX1_init_21 : decode cX1_init 21 = .ok (.bipush 8, 2) := by decide +kernel
theorem dX1_init_23 : decode cX1_init 23 = .ok (.newarray .boolean, 2) := by decide +kernel
theorem dX1_init_25 : decode cX1_init 25 = .ok (.putfield 16, 3) := by decide +kernel
theorem dX1_init_28 : decode cX1_init 28 = .ok (.aload_n 0, 1) := by decide +kernel
theorem dX1_init_29 : decode cX1_init 29 = .ok (.bipush 8, 2) := by decide +kernel
theorem dX1_init_31 : decode cX1_init 31 = .ok (.newarray .int, 2) := by decide +kernel
theorem dX1_init_33 : decode cX1_init 33 = .ok (.putfield 20, 3) := by decide +kernel
theorem dX1_init_36 : decode cX1_init 36 = .ok (.aload_n 0, 1) := by decide +kernel
theorem dX1_init_37 : decode cX1_init 37 = .ok (.bipush 8, 2) := by decide +kernel
theorem dX1_init_39 : decode cX1_init 39 = .ok (.newarray .int, 2) := by decide +kernel
theorem dX1_init_41 : decode cX1_init 41 = .ok (.putfield 23, 3) := by decide +kernel
theorem dX1_init_44 : decode cX1_init 44 = .ok (.aload_n 0, 1) := by decide +kernel
theorem dX1_init_45 : decode cX1_init 45 = .ok (.bipush 8, 2) := by decide +kernel
theorem dX1_init_47 : decode cX1_init 47 = .ok (.newarray .int, 2) := by decide +kernel
theorem dX1_init_49 : decode cX1_init 49 = .ok (.putfield 26, 3) := by decide +kernel
theorem dX1_init_52 : decode cX1_init 52 = .ok (.aload_n 0, 1) := by decide +kernel
theorem dX1_init_53 : decode cX1_init 53 = .ok (.iconst 3, 1) := by decide +kernel
theorem dX1_init_54 : decode cX1_init 54 = .ok (.newarray .int, 2) := by decide +kernel
theorem dX1_init_56 : decode cX1_init 56 = .ok (.putfield 29, 3) := by decide +kernel
theorem dX1_init_59 : decode cX1_init 59 = .ok (.aload_n 0, 1) := by decide +kernel
theorem dX1_init_60 : decode cX1_init 60 = .ok (.bipush 100, 2) := by decide +kernel
theorem dX1_init_62 : decode cX1_init 62 = .ok (.putfield 32, 3) := by decide +kernel
theorem dX1_init_65 : decode cX1_init 65 = .ok (.aload_n 0, 1) := by decide +kernel
theorem dX1_init_66 : decode cX1_init 66 = .ok (.bipush 8, 2) := by decide +kernel
theorem dX1_init_68 : decode cX1_init 68 = .ok (.newarray .int, 2) := by decide +kernel
theorem dX1_init_70 : decode cX1_init 70 = .ok (.putfield 36, 3) := by decide +kernel
theorem dX1_init_73 : decode cX1_init 73 = .ok (.aload_n 0, 1) := by decide +kernel
theorem dX1_init_74 : decode cX1_init 74 = .ok (.bipush 8, 2) := by decide +kernel
theorem dX1_init_76 : decode cX1_init 76 = .ok (.newarray .boolean, 2) := by decide +kernel
theorem dX1_init_78 : decode cX1_init 78 = .ok (.putfield 39, 3) := by decide +kernel
theorem dX1_init_81 : decode cX1_init 81 = .ok (.iconst 0, 1) := by decide +kernel
theorem dX1_init_82 : decode cX1_init 82 = .ok (.istore_n 1, 1) := by decide +kernel
theorem dX1_init_83 : decode cX1_init 83 = .ok (.iload_n 1, 1) := by decide +kernel
theorem dX1_init_84 : decode cX1_init 84 = .ok (.iconst 3, 1) := by decide +kernel
theorem dX1_init_85 : decode cX1_init 85 = .ok (.if_icmp .ge 17, 3) := by decide +kernel
theorem dX1_init_88 : decode cX1_init 88 = .ok (.aload_n 0, 1) := by decide +kernel
theorem dX1_init_89 : decode cX1_init 89 = .ok (.getfield 29, 3) := by decide +kernel
theorem dX1_init_92 : decode cX1_init 92 = .ok (.iload_n 1, 1) := by decide +kernel
theorem dX1_init_93 : decode cX1_init 93 = .ok (.bipush 32, 2) := by decide +kernel
theorem dX1_init_95 : decode cX1_init 95 = .ok (.iastore, 1) := by decide +kernel
theorem dX1_init_96 : decode cX1_init 96 = .ok (.iinc 1 1, 3) := by decide +kernel
theorem dX1_init_99 : decode cX1_init 99 = .ok (.goto (-16), 3) := by decide +kernel
theorem dX1_init_102 : decode cX1_init 102 = .ok (.return_, 1) := by decide +kernel
theorem dX1_thrown_0 : decode cX1_thrown 0 = .ok (.aload_n 0, 1) := by decide +kernel
theorem dX1_thrown_1 : decode cX1_thrown 1 = .ok (.getfield 42, 3) := by decide +kernel
theorem dX1_thrown_4 : decode cX1_thrown 4 = .ok (.ireturn, 1) := by decide +kernel
theorem dX1_isIn_0 : decode cX1_isIn 0 = .ok (.iload_n 0, 1) := by decide +kernel
theorem dX1_isIn_1 : decode cX1_isIn 1 = .ok (.iload_n 1, 1) := by decide +kernel
theorem dX1_isIn_2 : decode cX1_isIn 2 = .ok (.if_icmp .lt 12, 3) := by decide +kernel
theorem dX1_isIn_5 : decode cX1_isIn 5 = .ok (.iload_n 0, 1) := by decide +kernel
theorem dX1_isIn_6 : decode cX1_isIn 6 = .ok (.iload_n 2, 1) := by decide +kernel
theorem dX1_isIn_7 : decode cX1_isIn 7 = .ok (.if_icmp .gt 7, 3) := by decide +kernel
theorem dX1_isIn_10 : decode cX1_isIn 10 = .ok (.iconst 1, 1) := by decide +kernel
theorem dX1_isIn_11 : decode cX1_isIn 11 = .ok (.goto 4, 3) := by decide +kernel
theorem dX1_isIn_14 : decode cX1_isIn 14 = .ok (.iconst 0, 1) := by decide +kernel
theorem dX1_isIn_15 : decode cX1_isIn 15 = .ok (.ireturn, 1) := by decide +kernel
set_option maxRecDepth 20000 in
theorem ggX1_point_X1_isIn : GoodIn wsX1_point wsX1_isIn := goodIn_r _ [8] (by decide +kernel) (by decide +kernel)
set_option maxRecDepth 20000 in
theorem gX1_point_X1_isIn : GoodIn wsX1_point (va_wsS RX1 45 yX1_isIn wsX1_isIn) := goodIn_app (goodIn_of _ (by decide +kernel)) ggX1_point_X1_isIn
theorem dX1_point_0 : decode cX1_point 0 = .ok (.aload_n 0, 1) := by decide +kernel
theorem dX1_point_1 : decode cX1_point 1 = .ok (.iload_n 1, 1) := by decide +kernel
theorem dX1_point_2 : decode cX1_point 2 = .ok (.iconst 0, 1) := by decide +kernel
theorem dX1_point_3 : decode cX1_point 3 = .ok (.iconst 3, 1) := by decide +kernel
theorem dX1_point_4 : decode cX1_point 4 = .ok (.invokestatic 45, 3) := by decide +kernel
theorem dX1_point_7 : decode cX1_point 7 = .ok (.ifCond .eq 14, 3) := by decide +kernel
theorem dX1_point_10 : decode cX1_point 10 = .ok (.iload_n 2, 1) := by decide +kernel
theorem dX1_point_11 : decode cX1_point 11 = .ok (.bipush 6, 2) := by decide +kernel
theorem dX1_point_13 : decode cX1_point 13 = .ok (.bipush 32, 2) := by decide +kernel
theorem dX1_point_15 : decode cX1_point 15 = .ok (.invokestatic 45, 3) := by decide +kernel
theorem dX1_point_18 : decode cX1_point 18 = .ok (.ifCond .ne 7, 3) := by decide +kernel
theorem dX1_point_21 : decode cX1_point 21 = .ok (.iconst 1, 1) := by decide +kernel
theorem dX1_point_22 : decode cX1_point 22 = .ok (.goto 17, 3) := by decide +kernel
theorem dX1_point_25 : decode cX1_point 25 = .ok (.aload_n 0, 1) := by decide +kernel
theorem dX1_point_26 : decode cX1_point 26 = .ok (.getfield 49, 3) := by decide +kernel
theorem dX1_point_29 : decode cX1_point 29 = .ok (.bipush 8, 2) := by decide +kernel
theorem dX1_point_31 : decode cX1_point 31 = .ok (.if_icmp .ne 7, 3) := by decide +kernel
theorem dX1_point_34 : decode cX1_point 34 = .ok (.iconst 2, 1) := by decide +kernel
theorem dX1_point_35 : decode cX1_point 35 = .ok (.goto 4, 3) := by decide +kernel
theorem dX1_point_38 : decode cX1_point 38 = .ok (.iconst 0, 1) := by decide +kernel
theorem dX1_point_39 : decode cX1_point 39 = .ok (.putfield 42, 3) := by decide +kernel
theorem dX1_point_42 : decode cX1_point 42 = .ok (.aload_n 0, 1) := by decide +kernel
theorem dX1_point_43 : decode cX1_point 43 = .ok (.getfield 42, 3) := by decide +kernel
theorem dX1_point_46 : decode cX1_point 46 = .ok (.ifCond .le 5, 3) := by decide +kernel
theorem dX1_point_49 : decode cX1_point 49 = .ok (.iconst 0, 1) := by decide +kernel
theorem dX1_point_50 : decode cX1_point 50 = .ok (.ireturn, 1) := by decide +kernel
theorem dX1_point_51 : decode cX1_point 51 = .ok (.aload_n 0, 1) := by decide +kernel
theorem dX1_point_52 : decode cX1_point 52 = .ok (.getfield 7, 3) := by decide +kernel
theorem dX1_point_55 : decode cX1_point 55 = .ok (.aload_n 0, 1) := by decide +kernel
theorem dX1_point_56 : decode cX1_point 56 = .ok (.getfield 49, 3) := by decide +kernel
theorem dX1_point_59 : decode cX1_point 59 = .ok (.iload_n 1, 1) := by decide +kernel
theorem dX1_point_60 : decode cX1_point 60 = .ok (.iastore, 1) := by decide +kernel
theorem dX1_point_61 : decode cX1_point 61 = .ok (.aload_n 0, 1) := by decide +kernel
theorem dX1_point_62 : decode cX1_point 62 = .ok (.getfield 13, 3) := by decide +kernel
theorem dX1_point_65 : decode cX1_point 65 = .ok (.aload_n 0, 1) := by decide +kernel
theorem dX1_point_66 : decode cX1_point 66 = .ok (.getfield 49, 3) := by decide +kernel
theorem dX1_point_69 : decode cX1_point 69 = .ok (.iload_n 2, 1) := by decide +kernel
theorem dX1_point_70 : decode cX1_point 70 = .ok (.iastore, 1) := by decide +kernel
theorem dX1_point_71 : decode cX1_point 71 = .ok (.aload_n 0, 1) := by decide +kernel
theorem dX1_point_72 : decode cX1_point 72 = .ok (.dup, 1) := by decide +kernel
theorem dX1_point_73 : decode cX1_point 73 = .ok (.getfield 49, 3) := by decide +kernel
theorem dX1_point_76 : decode cX1_point 76 = .ok (.iconst 1, 1) := by decide +kernel
theorem dX1_point_77 : decode cX1_point 77 = .ok (.iadd, 1) := by decide +kernel
theorem dX1_point_78 : decode cX1_point 78 = .ok (.putfield 49, 3) := by decide +kernel
theorem dX1_point_81 : decode cX1_point 81 = .ok (.aload_n 0, 1) := by decide +kernel
theorem dX1_point_82 : decode cX1_point 82 = .ok (.getfield 49, 3) := by decide +kernel
theorem dX1_point_85 : decode cX1_point 85 = .ok (.iconst 1, 1) := by decide +kernel
theorem dX1_point_86 : decode cX1_point 86 = .ok (.isub, 1) := by decide +kernel
theorem dX1_point_87 : decode cX1_point 87 = .ok (.ireturn, 1) := by decide +kernel
set_option maxRecDepth 20000 in
theorem ggX1_fuse_X1_isIn : GoodIn wsX1_fuse wsX1_isIn := goodIn_r _ [6] (by decide +kernel) (by decide +kernel)
set_option maxRecDepth 20000 in
theorem gX1_fuse_X1_isIn : GoodIn wsX1_fuse (va_wsS RX1 45 yX1_isIn wsX1_isIn) := goodIn_app (goodIn_of _ (by decide +kernel)) ggX1_fuse_X1_isIn
theorem dX1_fuse_0 : decode cX1_fuse 0 = .ok (.aload_n 0, 1) := by decide +kernel
theorem dX1_fuse_1 : decode cX1_fuse 1 = .ok (.iload_n 1, 1) := by decide +kernel
theorem dX1_fuse_2 : decode cX1_fuse 2 = .ok (.iconst 0, 1) := by decide +kernel
theorem dX1_fuse_3 : decode cX1_fuse 3 = .ok (.iconst 2, 1) := by decide +kernel
theorem dX1_fuse_4 : decode cX1_fuse 4 = .ok (.invokestatic 45, 3) := by decide +kernel
theorem dX1_fuse_7 : decode cX1_fuse 7 = .ok (.ifCond .eq 17, 3) := by decide +kernel
theorem dX1_fuse_10 : decode cX1_fuse 10 = .ok (.iload_n 2, 1) := by decide +kernel
theorem dX1_fuse_11 : decode cX1_fuse 11 = .ok (.iconst 0, 1) := by decide +kernel
theorem dX1_fuse_12 : decode cX1_fuse 12 = .ok (.bipush 100, 2) := by decide +kernel
theorem dX1_fuse_14 : decode cX1_fuse 14 = .ok (.invokestatic 45, 3) := by decide +kernel
theorem dX1_fuse_17 : decode cX1_fuse 17 = .ok (.ifCond .eq 7, 3) := by decide +kernel
theorem dX1_fuse_20 : decode cX1_fuse 20 = .ok (.iconst 0, 1) := by decide +kernel
theorem dX1_fuse_21 : decode cX1_fuse 21 = .ok (.goto 4, 3) := by decide +kernel
theorem dX1_fuse_24 : decode cX1_fuse 24 = .ok (.iconst 1, 1) := by decide +kernel
theorem dX1_fuse_25 : decode cX1_fuse 25 = .ok (.putfield 42, 3) := by decide +kernel
theorem dX1_fuse_28 : decode cX1_fuse 28 = .ok (.aload_n 0, 1) := by decide +kernel
theorem dX1_fuse_29 : decode cX1_fuse 29 = .ok (.getfield 42, 3) := by decide +kernel
theorem dX1_fuse_32 : decode cX1_fuse 32 = .ok (.ifCond .le 5, 3) := by decide +kernel
theorem dX1_fuse_35 : decode cX1_fuse 35 = .ok (.iconst 0, 1) := by decide +kernel
theorem dX1_fuse_36 : decode cX1_fuse 36 = .ok (.ireturn, 1) := by decide +kernel
theorem dX1_fuse_37 : decode cX1_fuse 37 = .ok (.aload_n 0, 1) := by decide +kernel
theorem dX1_fuse_38 : decode cX1_fuse 38 = .ok (.getfield 29, 3) := by decide +kernel
theorem dX1_fuse_41 : decode cX1_fuse 41 = .ok (.iload_n 1, 1) := by decide +kernel
theorem dX1_fuse_42 : decode cX1_fuse 42 = .ok (.iaload, 1) := by decide +kernel
theorem dX1_fuse_43 : decode cX1_fuse 43 = .ok (.istore_n 3, 1) := by decide +kernel
theorem dX1_fuse_44 : decode cX1_fuse 44 = .ok (.aload_n 0, 1) := by decide +kernel
theorem dX1_fuse_45 : decode cX1_fuse 45 = .ok (.getfield 29, 3) := by decide +kernel
theorem dX1_fuse_48 : decode cX1_fuse 48 = .ok (.iload_n 1, 1) := by decide +kernel
theorem dX1_fuse_49 : decode cX1_fuse 49 = .ok (.iload_n 2, 1) := by decide +kernel
theorem dX1_fuse_50 : decode cX1_fuse 50 = .ok (.iastore, 1) := by decide +kernel
theorem dX1_fuse_51 : decode cX1_fuse 51 = .ok (.iload_n 3, 1) := by decide +kernel
theorem dX1_fuse_52 : decode cX1_fuse 52 = .ok (.ireturn, 1) := by decide +kernel
set_option maxRecDepth 20000 in
theorem ggX1_balance_X1_isIn : GoodIn wsX1_balance wsX1_isIn := goodIn_r _ [6] (by decide +kernel) (by decide +kernel)
set_option maxRecDepth 20000 in
theorem gX1_balance_X1_isIn : GoodIn wsX1_balance (va_wsS RX1 45 yX1_isIn wsX1_isIn) := goodIn_app (goodIn_of _ (by decide +kernel)) ggX1_balance_X1_isIn
theorem dX1_balance_0 : decode cX1_balance 0 = .ok (.aload_n 0, 1) := by decide +kernel
theorem dX1_balance_1 : decode cX1_balance 1 = .ok (.iload_n 1, 1) := by decide +kernel
theorem dX1_balance_2 : decode cX1_balance 2 = .ok (.iconst 0, 1) := by decide +kernel
theorem dX1_balance_3 : decode cX1_balance 3 = .ok (.bipush 100, 2) := by decide +kernel
theorem dX1_balance_5 : decode cX1_balance 5 = .ok (.invokestatic 45, 3) := by decide +kernel
theorem dX1_balance_8 : decode cX1_balance 8 = .ok (.ifCond .eq 7, 3) := by decide +kernel
theorem dX1_balance_11 : decode cX1_balance 11 = .ok (.iconst 0, 1) := by decide +kernel
theorem dX1_balance_12 : decode cX1_balance 12 = .ok (.goto 4, 3) := by decide +kernel
theorem dX1_balance_15 : decode cX1_balance 15 = .ok (.iconst 1, 1) := by decide +kernel
theorem dX1_balance_16 : decode cX1_balance 16 = .ok (.putfield 42, 3) := by decide +kernel
theorem dX1_balance_19 : decode cX1_balance 19 = .ok (.aload_n 0, 1) := by decide +kernel
theorem dX1_balance_20 : decode cX1_balance 20 = .ok (.getfield 42, 3) := by decide +kernel
theorem dX1_balance_23 : decode cX1_balance 23 = .ok (.ifCond .le 5, 3) := by decide +kernel
theorem dX1_balance_26 : decode cX1_balance 26 = .ok (.iconst 0, 1) := by decide +kernel
theorem dX1_balance_27 : decode cX1_balance 27 = .ok (.ireturn, 1) := by decide +kernel
theorem dX1_balance_28 : decode cX1_balance 28 = .ok (.aload_n 0, 1) := by decide +kernel
theorem dX1_balance_29 : decode cX1_balance 29 = .ok (.getfield 32, 3) := by decide +kernel
theorem dX1_balance_32 : decode cX1_balance 32 = .ok (.istore_n 2, 1) := by decide +kernel
theorem dX1_balance_33 : decode cX1_balance 33 = .ok (.aload_n 0, 1) := by decide +kernel
theorem dX1_balance_34 : decode cX1_balance 34 = .ok (.iload_n 1, 1) := by decide +kernel
theorem dX1_balance_35 : decode cX1_balance 35 = .ok (.putfield 32, 3) := by decide +kernel
theorem dX1_balance_38 : decode cX1_balance 38 = .ok (.iload_n 2, 1) := by decide +kernel
theorem dX1_balance_39 : decode cX1_balance 39 = .ok (.ireturn, 1) := by decide +kernel
set_option maxRecDepth 20000 in
theorem ggX1_rule_X1_isIn : GoodIn wsX1_rule wsX1_isIn := goodIn_r _ [6] (by decide +kernel) (by decide +kernel)
set_option maxRecDepth 20000 in
theorem gX1_rule_X1_isIn : GoodIn wsX1_rule (va_wsS RX1 45 yX1_isIn wsX1_isIn) := goodIn_app (goodIn_of _ (by decide +kernel)) ggX1_rule_X1_isIn
theorem dX1_rule_0 : decode cX1_rule 0 = .ok (.aload_n 0, 1) := by decide +kernel
theorem dX1_rule_1 : decode cX1_rule 1 = .ok (.iload_n 1, 1) := by decide +kernel
theorem dX1_rule_2 : decode cX1_rule 2 = .ok (.iconst 0, 1) := by decide +kernel
theorem dX1_rule_3 : decode cX1_rule 3 = .ok (.iconst 1, 1) := by decide +kernel
theorem dX1_rule_4 : decode cX1_rule 4 = .ok (.invokestatic 45, 3) := by decide +kernel
theorem dX1_rule_7 : decode cX1_rule 7 = .ok (.ifCond .eq 7, 3) := by decide +kernel
theorem dX1_rule_10 : decode cX1_rule 10 = .ok (.iconst 0, 1) := by decide +kernel
theorem dX1_rule_11 : decode cX1_rule 11 = .ok (.goto 4, 3) := by decide +kernel
theorem dX1_rule_14 : decode cX1_rule 14 = .ok (.iconst 1, 1) := by decide +kernel
theorem dX1_rule_15 : decode cX1_rule 15 = .ok (.putfield 42, 3) := by decide +kernel
theorem dX1_rule_18 : decode cX1_rule 18 = .ok (.aload_n 0, 1) := by decide +kernel
theorem dX1_rule_19 : decode cX1_rule 19 = .ok (.getfield 42, 3) := by decide +kernel
theorem dX1_rule_22 : decode cX1_rule 22 = .ok (.ifCond .le 5, 3) := by decide +kernel
theorem dX1_rule_25 : decode cX1_rule 25 = .ok (.iconst 0, 1) := by decide +kernel
theorem dX1_rule_26 : decode cX1_rule 26 = .ok (.ireturn, 1) := by decide +kernel
theorem dX1_rule_27 : decode cX1_rule 27 = .ok (.aload_n 0, 1) := by decide +kernel
theorem dX1_rule_28 : decode cX1_rule 28 = .ok (.getfield 52, 3) := by decide +kernel
theorem dX1_rule_31 : decode cX1_rule 31 = .ok (.istore_n 2, 1) := by decide +kernel
theorem dX1_rule_32 : decode cX1_rule 32 = .ok (.aload_n 0, 1) := by decide +kernel
theorem dX1_rule_33 : decode cX1_rule 33 = .ok (.iload_n 1, 1) := by decide +kernel
theorem dX1_rule_34 : decode cX1_rule 34 = .ok (.putfield 52, 3) := by decide +kernel
theorem dX1_rule_37 : decode cX1_rule 37 = .ok (.iload_n 2, 1) := by decide +kernel
theorem dX1_rule_38 : decode cX1_rule 38 = .ok (.ireturn, 1) := by decide +kernel
theorem dX1_stepsLeft_0 : decode cX1_stepsLeft 0 = .ok (.aload_n 0, 1) := by decide +kernel
theorem dX1_stepsLeft_1 : decode cX1_stepsLeft 1 = .ok (.getfield 26, 3) := by decide +kernel
theorem dX1_stepsLeft_4 : decode cX1_stepsLeft 4 = .ok (.iload_n 1, 1) := by decide +kernel
theorem dX1_stepsLeft_5 : decode cX1_stepsLeft 5 = .ok (.iaload, 1) := by decide +kernel
theorem dX1_stepsLeft_6 : decode cX1_stepsLeft 6 = .ok (.aload_n 0, 1) := by decide +kernel
theorem dX1_stepsLeft_7 : decode cX1_stepsLeft 7 = .ok (.getfield 55, 3) := by decide +kernel
theorem dX1_stepsLeft_10 : decode cX1_stepsLeft 10 = .ok (.if_icmp .le 17, 3) := by decide +kernel
theorem dX1_stepsLeft_13 : decode cX1_stepsLeft 13 = .ok (.aload_n 0, 1) := by decide +kernel
theorem dX1_stepsLeft_14 : decode cX1_stepsLeft 14 = .ok (.getfield 26, 3) := by decide +kernel
theorem dX1_stepsLeft_17 : decode cX1_stepsLeft 17 = .ok (.iload_n 1, 1) := by decide +kernel
theorem dX1_stepsLeft_18 : decode cX1_stepsLeft 18 = .ok (.iaload, 1) := by decide +kernel
theorem dX1_stepsLeft_19 : decode cX1_stepsLeft 19 = .ok (.aload_n 0, 1) := by decide +kernel
theorem dX1_stepsLeft_20 : decode cX1_stepsLeft 20 = .ok (.getfield 55, 3) := by decide +kernel
theorem dX1_stepsLeft_23 : decode cX1_stepsLeft 23 = .ok (.isub, 1) := by decide +kernel
theorem dX1_stepsLeft_24 : decode cX1_stepsLeft 24 = .ok (.goto 4, 3) := by decide +kernel
theorem dX1_stepsLeft_27 : decode cX1_stepsLeft 27 = .ok (.iconst 0, 1) := by decide +kernel
theorem dX1_stepsLeft_28 : decode cX1_stepsLeft 28 = .ok (.ireturn, 1) := by decide +kernel
theorem dX1_times_0 : decode cX1_times 0 = .ok (.aload_n 0, 1) := by decide +kernel
theorem dX1_times_1 : decode cX1_times 1 = .ok (.getfield 7, 3) := by decide +kernel
theorem dX1_times_4 : decode cX1_times 4 = .ok (.iload_n 1, 1) := by decide +kernel
theorem dX1_times_5 : decode cX1_times 5 = .ok (.iaload, 1) := by decide +kernel
theorem dX1_times_6 : decode cX1_times 6 = .ok (.iconst 3, 1) := by decide +kernel
theorem dX1_times_7 : decode cX1_times 7 = .ok (.if_icmp .ne 7, 3) := by decide +kernel
theorem dX1_times_10 : decode cX1_times 10 = .ok (.iconst 3, 1) := by decide +kernel
theorem dX1_times_11 : decode cX1_times 11 = .ok (.goto 4, 3) := by decide +kernel
theorem dX1_times_14 : decode cX1_times 14 = .ok (.iconst 1, 1) := by decide +kernel
theorem dX1_times_15 : decode cX1_times 15 = .ok (.ireturn, 1) := by decide +kernel
theorem dX1_up_0 : decode cX1_up 0 = .ok (.iload_n 0, 1) := by decide +kernel
theorem dX1_up_1 : decode cX1_up 1 = .ok (.iload_n 1, 1) := by decide +kernel
theorem dX1_up_2 : decode cX1_up 2 = .ok (.iadd, 1) := by decide +kernel
theorem dX1_up_3 : decode cX1_up 3 = .ok (.iconst 1, 1) := by decide +kernel
theorem dX1_up_4 : decode cX1_up 4 = .ok (.isub, 1) := by decide +kernel
theorem dX1_up_5 : decode cX1_up 5 = .ok (.iload_n 1, 1) := by decide +kernel
theorem dX1_up_6 : decode cX1_up 6 = .ok (.idiv, 1) := by decide +kernel
theorem dX1_up_7 : decode cX1_up 7 = .ok (.ireturn, 1) := by decide +kernel
theorem dX1_most_0 : decode cX1_most 0 = .ok (.aload_n 0, 1) := by decide +kernel
theorem dX1_most_1 : decode cX1_most 1 = .ok (.getfield 13, 3) := by decide +kernel
theorem dX1_most_4 : decode cX1_most 4 = .ok (.iload_n 1, 1) := by decide +kernel
theorem dX1_most_5 : decode cX1_most 5 = .ok (.iaload, 1) := by decide +kernel
theorem dX1_most_6 : decode cX1_most 6 = .ok (.aload_n 0, 1) := by decide +kernel
theorem dX1_most_7 : decode cX1_most 7 = .ok (.getfield 23, 3) := by decide +kernel
theorem dX1_most_10 : decode cX1_most 10 = .ok (.iload_n 1, 1) := by decide +kernel
theorem dX1_most_11 : decode cX1_most 11 = .ok (.iaload, 1) := by decide +kernel
theorem dX1_most_12 : decode cX1_most 12 = .ok (.if_icmp .ge 12, 3) := by decide +kernel
theorem dX1_most_15 : decode cX1_most 15 = .ok (.aload_n 0, 1) := by decide +kernel
theorem dX1_most_16 : decode cX1_most 16 = .ok (.getfield 13, 3) := by decide +kernel
theorem dX1_most_19 : decode cX1_most 19 = .ok (.iload_n 1, 1) := by decide +kernel
theorem dX1_most_20 : decode cX1_most 20 = .ok (.iaload, 1) := by decide +kernel
theorem dX1_most_21 : decode cX1_most 21 = .ok (.goto 9, 3) := by decide +kernel
theorem dX1_most_24 : decode cX1_most 24 = .ok (.aload_n 0, 1) := by decide +kernel
theorem dX1_most_25 : decode cX1_most 25 = .ok (.getfield 23, 3) := by decide +kernel
theorem dX1_most_28 : decode cX1_most 28 = .ok (.iload_n 1, 1) := by decide +kernel
theorem dX1_most_29 : decode cX1_most 29 = .ok (.iaload, 1) := by decide +kernel
theorem dX1_most_30 : decode cX1_most 30 = .ok (.ireturn, 1) := by decide +kernel
set_option maxRecDepth 20000 in
theorem ggX1_lax_X1_stepsLeft : GoodIn wsX1_lax wsX1_stepsLeft := goodIn_r _ [6, 7, 8, 23, 24, 25, 26, 27, 28, 29, 30, 31, 32, 33, 34, 35, 36, 37, 38] (by decide +kernel) (by decide +kernel)
set_option maxRecDepth 20000 in
theorem gX1_lax_X1_stepsLeft : GoodIn wsX1_lax (wsV RX1 58 RX1 yX1_stepsLeft wsX1_stepsLeft) := goodIn_app (goodIn_of _ (by decide +kernel)) ggX1_lax_X1_stepsLeft
set_option maxRecDepth 20000 in
theorem ggX1_lax_X1_most : GoodIn wsX1_lax wsX1_most := goodIn_r _ [12, 13, 14, 23, 24, 25, 26, 27, 28, 29, 30, 31, 32, 33, 34, 35, 36, 37, 38] (by decide +kernel) (by decide +kernel)
set_option maxRecDepth 20000 in
theorem gX1_lax_X1_most : GoodIn wsX1_lax (wsV RX1 62 RX1 yX1_most wsX1_most) := goodIn_app (goodIn_of _ (by decide +kernel)) ggX1_lax_X1_most
set_option maxRecDepth 20000 in
theorem ggX1_lax_X1_times : GoodIn wsX1_lax wsX1_times := goodIn_r _ [18, 19, 23, 24, 25, 26, 27, 28, 29, 30, 31, 32, 33, 34, 35, 36, 37, 38] (by decide +kernel) (by decide +kernel)
set_option maxRecDepth 20000 in
theorem gX1_lax_X1_times : GoodIn wsX1_lax (wsV RX1 65 RX1 yX1_times wsX1_times) := goodIn_app (goodIn_of _ (by decide +kernel)) ggX1_lax_X1_times
set_option maxRecDepth 20000 in
theorem ggX1_lax_X1_up : GoodIn wsX1_lax wsX1_up := goodIn_r _ [22] (by decide +kernel) (by decide +kernel)
set_option maxRecDepth 20000 in
theorem gX1_lax_X1_up : GoodIn wsX1_lax (va_wsS RX1 68 yX1_up wsX1_up) := goodIn_app (goodIn_of _ (by decide +kernel)) ggX1_lax_X1_up
theorem dX1_lax_0 : decode cX1_lax 0 = .ok (.aload_n 0, 1) := by decide +kernel
theorem dX1_lax_1 : decode cX1_lax 1 = .ok (.iload_n 1, 1) := by decide +kernel
theorem dX1_lax_2 : decode cX1_lax 2 = .ok (.invokevirtual 58, 3) := by decide +kernel
theorem dX1_lax_5 : decode cX1_lax 5 = .ok (.aload_n 0, 1) := by decide +kernel
theorem dX1_lax_6 : decode cX1_lax 6 = .ok (.getfield 20, 3) := by decide +kernel
theorem dX1_lax_9 : decode cX1_lax 9 = .ok (.iload_n 1, 1) := by decide +kernel
theorem dX1_lax_10 : decode cX1_lax 10 = .ok (.iaload, 1) := by decide +kernel
theorem dX1_lax_11 : decode cX1_lax 11 = .ok (.aload_n 0, 1) := by decide +kernel
theorem dX1_lax_12 : decode cX1_lax 12 = .ok (.iload_n 1, 1) := by decide +kernel
theorem dX1_lax_13 : decode cX1_lax 13 = .ok (.invokevirtual 62, 3) := by decide +kernel
theorem dX1_lax_16 : decode cX1_lax 16 = .ok (.aload_n 0, 1) := by decide +kernel
theorem dX1_lax_17 : decode cX1_lax 17 = .ok (.iload_n 1, 1) := by decide +kernel
theorem dX1_lax_18 : decode cX1_lax 18 = .ok (.invokevirtual 65, 3) := by decide +kernel
theorem dX1_lax_21 : decode cX1_lax 21 = .ok (.imul, 1) := by decide +kernel
theorem dX1_lax_22 : decode cX1_lax 22 = .ok (.invokestatic 68, 3) := by decide +kernel
theorem dX1_lax_25 : decode cX1_lax 25 = .ok (.isub, 1) := by decide +kernel
theorem dX1_lax_26 : decode cX1_lax 26 = .ok (.ireturn, 1) := by decide +kernel
set_option maxRecDepth 20000 in
theorem ggX1_reaches_X1_times : GoodIn wsX1_reaches wsX1_times := goodIn_r _ [7, 8, 24, 25, 26, 27, 28, 29, 30, 31, 32, 33, 34, 35, 36, 37, 38, 39] (by decide +kernel) (by decide +kernel)
set_option maxRecDepth 20000 in
theorem gX1_reaches_X1_times : GoodIn wsX1_reaches (wsV RX1 65 RX1 yX1_times wsX1_times) := goodIn_app (goodIn_of _ (by decide +kernel)) ggX1_reaches_X1_times
set_option maxRecDepth 20000 in
theorem ggX1_reaches_X1_up : GoodIn wsX1_reaches wsX1_up := goodIn_r _ [11] (by decide +kernel) (by decide +kernel)
set_option maxRecDepth 20000 in
theorem gX1_reaches_X1_up : GoodIn wsX1_reaches (va_wsS RX1 68 yX1_up wsX1_up) := goodIn_app (goodIn_of _ (by decide +kernel)) ggX1_reaches_X1_up
set_option maxRecDepth 20000 in
theorem ggX1_reaches_X1_most : GoodIn wsX1_reaches wsX1_most := goodIn_r _ [15, 16, 17, 24, 25, 26, 27, 28, 29, 30, 31, 32, 33, 34, 35, 36, 37, 38, 39] (by decide +kernel) (by decide +kernel)
set_option maxRecDepth 20000 in
theorem gX1_reaches_X1_most : GoodIn wsX1_reaches (wsV RX1 62 RX1 yX1_most wsX1_most) := goodIn_app (goodIn_of _ (by decide +kernel)) ggX1_reaches_X1_most
set_option maxRecDepth 20000 in
theorem ggX1_reaches_X1_stepsLeft : GoodIn wsX1_reaches wsX1_stepsLeft := goodIn_r _ [21, 22, 23, 24, 25, 26, 27, 28, 29, 30, 31, 32, 33, 34, 35, 36, 37, 38, 39] (by decide +kernel) (by decide +kernel)
set_option maxRecDepth 20000 in
theorem gX1_reaches_X1_stepsLeft : GoodIn wsX1_reaches (wsV RX1 58 RX1 yX1_stepsLeft wsX1_stepsLeft) := goodIn_app (goodIn_of _ (by decide +kernel)) ggX1_reaches_X1_stepsLeft
theorem dX1_reaches_0 : decode cX1_reaches 0 = .ok (.aload_n 0, 1) := by decide +kernel
theorem dX1_reaches_1 : decode cX1_reaches 1 = .ok (.getfield 20, 3) := by decide +kernel
theorem dX1_reaches_4 : decode cX1_reaches 4 = .ok (.iload_n 1, 1) := by decide +kernel
theorem dX1_reaches_5 : decode cX1_reaches 5 = .ok (.iaload, 1) := by decide +kernel
theorem dX1_reaches_6 : decode cX1_reaches 6 = .ok (.aload_n 0, 1) := by decide +kernel
theorem dX1_reaches_7 : decode cX1_reaches 7 = .ok (.iload_n 1, 1) := by decide +kernel
theorem dX1_reaches_8 : decode cX1_reaches 8 = .ok (.invokevirtual 65, 3) := by decide +kernel
theorem dX1_reaches_11 : decode cX1_reaches 11 = .ok (.invokestatic 68, 3) := by decide +kernel
theorem dX1_reaches_14 : decode cX1_reaches 14 = .ok (.istore_n 2, 1) := by decide +kernel
theorem dX1_reaches_15 : decode cX1_reaches 15 = .ok (.iload_n 2, 1) := by decide +kernel
theorem dX1_reaches_16 : decode cX1_reaches 16 = .ok (.aload_n 0, 1) := by decide +kernel
theorem dX1_reaches_17 : decode cX1_reaches 17 = .ok (.iload_n 1, 1) := by decide +kernel
theorem dX1_reaches_18 : decode cX1_reaches 18 = .ok (.invokevirtual 62, 3) := by decide +kernel
theorem dX1_reaches_21 : decode cX1_reaches 21 = .ok (.if_icmp .ge 7, 3) := by decide +kernel
theorem dX1_reaches_24 : decode cX1_reaches 24 = .ok (.iload_n 2, 1) := by decide +kernel
theorem dX1_reaches_25 : decode cX1_reaches 25 = .ok (.goto 8, 3) := by decide +kernel
theorem dX1_reaches_28 : decode cX1_reaches 28 = .ok (.aload_n 0, 1) := by decide +kernel
theorem dX1_reaches_29 : decode cX1_reaches 29 = .ok (.iload_n 1, 1) := by decide +kernel
theorem dX1_reaches_30 : decode cX1_reaches 30 = .ok (.invokevirtual 62, 3) := by decide +kernel
theorem dX1_reaches_33 : decode cX1_reaches 33 = .ok (.istore_n 3, 1) := by decide +kernel
theorem dX1_reaches_34 : decode cX1_reaches 34 = .ok (.aload_n 0, 1) := by decide +kernel
theorem dX1_reaches_35 : decode cX1_reaches 35 = .ok (.getfield 16, 3) := by decide +kernel
theorem dX1_reaches_38 : decode cX1_reaches 38 = .ok (.iload_n 1, 1) := by decide +kernel
theorem dX1_reaches_39 : decode cX1_reaches 39 = .ok (.baload, 1) := by decide +kernel
theorem dX1_reaches_40 : decode cX1_reaches 40 = .ok (.ifCond .eq 15, 3) := by decide +kernel
theorem dX1_reaches_43 : decode cX1_reaches 43 = .ok (.aload_n 0, 1) := by decide +kernel
theorem dX1_reaches_44 : decode cX1_reaches 44 = .ok (.iload_n 1, 1) := by decide +kernel
theorem dX1_reaches_45 : decode cX1_reaches 45 = .ok (.invokevirtual 58, 3) := by decide +kernel
theorem dX1_reaches_48 : decode cX1_reaches 48 = .ok (.ifCond .le 7, 3) := by decide +kernel
theorem dX1_reaches_51 : decode cX1_reaches 51 = .ok (.iload_n 3, 1) := by decide +kernel
theorem dX1_reaches_52 : decode cX1_reaches 52 = .ok (.goto 4, 3) := by decide +kernel
theorem dX1_reaches_55 : decode cX1_reaches 55 = .ok (.iconst 0, 1) := by decide +kernel
theorem dX1_reaches_56 : decode cX1_reaches 56 = .ok (.ireturn, 1) := by decide +kernel
set_option maxRecDepth 20000 in
theorem ggX1_isPoint_X1_isIn : GoodIn wsX1_isPoint wsX1_isIn := goodIn_r _ [6] (by decide +kernel) (by decide +kernel)
set_option maxRecDepth 20000 in
theorem gX1_isPoint_X1_isIn : GoodIn wsX1_isPoint (va_wsS RX1 45 yX1_isIn wsX1_isIn) := goodIn_app (goodIn_of _ (by decide +kernel)) ggX1_isPoint_X1_isIn
theorem dX1_isPoint_0 : decode cX1_isPoint 0 = .ok (.aload_n 0, 1) := by decide +kernel
theorem dX1_isPoint_1 : decode cX1_isPoint 1 = .ok (.iload_n 1, 1) := by decide +kernel
theorem dX1_isPoint_2 : decode cX1_isPoint 2 = .ok (.iconst 0, 1) := by decide +kernel
theorem dX1_isPoint_3 : decode cX1_isPoint 3 = .ok (.aload_n 0, 1) := by decide +kernel
theorem dX1_isPoint_4 : decode cX1_isPoint 4 = .ok (.getfield 49, 3) := by decide +kernel
theorem dX1_isPoint_7 : decode cX1_isPoint 7 = .ok (.iconst 1, 1) := by decide +kernel
theorem dX1_isPoint_8 : decode cX1_isPoint 8 = .ok (.isub, 1) := by decide +kernel
theorem dX1_isPoint_9 : decode cX1_isPoint 9 = .ok (.invokestatic 45, 3) := by decide +kernel
theorem dX1_isPoint_12 : decode cX1_isPoint 12 = .ok (.ifCond .eq 7, 3) := by decide +kernel
theorem dX1_isPoint_15 : decode cX1_isPoint 15 = .ok (.iconst 0, 1) := by decide +kernel
theorem dX1_isPoint_16 : decode cX1_isPoint 16 = .ok (.goto 4, 3) := by decide +kernel
theorem dX1_isPoint_19 : decode cX1_isPoint 19 = .ok (.iconst 1, 1) := by decide +kernel
theorem dX1_isPoint_20 : decode cX1_isPoint 20 = .ok (.putfield 42, 3) := by decide +kernel
theorem dX1_isPoint_23 : decode cX1_isPoint 23 = .ok (.aload_n 0, 1) := by decide +kernel
theorem dX1_isPoint_24 : decode cX1_isPoint 24 = .ok (.getfield 42, 3) := by decide +kernel
theorem dX1_isPoint_27 : decode cX1_isPoint 27 = .ok (.ifCond .ne 7, 3) := by decide +kernel
theorem dX1_isPoint_30 : decode cX1_isPoint 30 = .ok (.iconst 1, 1) := by decide +kernel
theorem dX1_isPoint_31 : decode cX1_isPoint 31 = .ok (.goto 4, 3) := by decide +kernel
theorem dX1_isPoint_34 : decode cX1_isPoint 34 = .ok (.iconst 0, 1) := by decide +kernel
theorem dX1_isPoint_35 : decode cX1_isPoint 35 = .ok (.ireturn, 1) := by decide +kernel
set_option maxRecDepth 20000 in
theorem ggX1_plugIn_X1_isPoint : GoodIn wsX1_plugIn wsX1_isPoint := goodIn_r _ [11, 12, 2, 13, 14, 10, 15, 37, 38, 39, 40, 41, 42, 43, 44, 45, 46, 47, 48, 49, 50, 51, 52] (by decide +kernel) (by decide +kernel)
set_option maxRecDepth 20000 in
theorem gX1_plugIn_X1_isPoint : GoodIn wsX1_plugIn (wsV RX1 72 RX1 yX1_isPoint wsX1_isPoint) := goodIn_app (goodIn_of _ (by decide +kernel)) ggX1_plugIn_X1_isPoint
set_option maxRecDepth 20000 in
theorem ggX1_plugIn_X1_isIn : GoodIn wsX1_plugIn wsX1_isIn := goodIn_r _ [15] (by decide +kernel) (by decide +kernel)
set_option maxRecDepth 20000 in
theorem gX1_plugIn_X1_isIn : GoodIn wsX1_plugIn (va_wsS RX1 45 yX1_isIn wsX1_isIn) := goodIn_app (goodIn_of _ (by decide +kernel)) ggX1_plugIn_X1_isIn
set_option maxRecDepth 20000 in
theorem ggX1_plugIn_X1_lax : GoodIn wsX1_plugIn wsX1_lax := goodIn_r _ [19, 3, 20, 21, 22, 10, 23, 5, 6, 24, 25, 26, 27, 28, 4, 29, 30, 31, 32, 33, 34, 35, 36, 37, 38, 39, 40, 41, 42, 43, 44, 45, 46, 47, 48, 49, 50, 51, 52] (by decide +kernel) (by decide +kernel)
set_option maxRecDepth 20000 in
theorem gX1_plugIn_X1_lax : GoodIn wsX1_plugIn (wsV RX1 76 RX1 yX1_lax wsX1_lax) := goodIn_app (goodIn_of _ (by decide +kernel)) ggX1_plugIn_X1_lax
theorem dX1_plugIn_0 : decode cX1_plugIn 0 = .ok (.aload_n 0, 1) := by decide +kernel
theorem dX1_plugIn_1 : decode cX1_plugIn 1 = .ok (.iload_n 1, 1) := by decide +kernel
theorem dX1_plugIn_2 : decode cX1_plugIn 2 = .ok (.invokevirtual 72, 3) := by decide +kernel
theorem dX1_plugIn_5 : decode cX1_plugIn 5 = .ok (.ifCond .ne 5, 3) := by decide +kernel
theorem dX1_plugIn_8 : decode cX1_plugIn 8 = .ok (.iconst 0, 1) := by decide +kernel
theorem dX1_plugIn_9 : decode cX1_plugIn 9 = .ok (.ireturn, 1) := by decide +kernel
theorem dX1_plugIn_10 : decode cX1_plugIn 10 = .ok (.aload_n 0, 1) := by decide +kernel
theorem dX1_plugIn_11 : decode cX1_plugIn 11 = .ok (.iload_n 2, 1) := by decide +kernel
theorem dX1_plugIn_12 : decode cX1_plugIn 12 = .ok (.iconst 1, 1) := by decide +kernel
theorem dX1_plugIn_13 : decode cX1_plugIn 13 = .ok (.sipush 5000, 3) := by decide +kernel
theorem dX1_plugIn_16 : decode cX1_plugIn 16 = .ok (.invokestatic 45, 3) := by decide +kernel
theorem dX1_plugIn_19 : decode cX1_plugIn 19 = .ok (.ifCond .eq 25, 3) := by decide +kernel
theorem dX1_plugIn_22 : decode cX1_plugIn 22 = .ok (.iload_n 3, 1) := by decide +kernel
theorem dX1_plugIn_23 : decode cX1_plugIn 23 = .ok (.iconst 1, 1) := by decide +kernel
theorem dX1_plugIn_24 : decode cX1_plugIn 24 = .ok (.bipush 32, 2) := by decide +kernel
theorem dX1_plugIn_26 : decode cX1_plugIn 26 = .ok (.invokestatic 45, 3) := by decide +kernel
theorem dX1_plugIn_29 : decode cX1_plugIn 29 = .ok (.ifCond .eq 15, 3) := by decide +kernel
theorem dX1_plugIn_32 : decode cX1_plugIn 32 = .ok (.iload 4, 2) := by decide +kernel
theorem dX1_plugIn_34 : decode cX1_plugIn 34 = .ok (.iconst 1, 1) := by decide +kernel
theorem dX1_plugIn_35 : decode cX1_plugIn 35 = .ok (.sipush 500, 3) := by decide +kernel
theorem dX1_plugIn_38 : decode cX1_plugIn 38 = .ok (.invokestatic 45, 3) := by decide +kernel
theorem dX1_plugIn_41 : decode cX1_plugIn 41 = .ok (.ifCond .ne 7, 3) := by decide +kernel
theorem dX1_plugIn_44 : decode cX1_plugIn 44 = .ok (.iconst 2, 1) := by decide +kernel
theorem dX1_plugIn_45 : decode cX1_plugIn 45 = .ok (.goto 17, 3) := by decide +kernel
theorem dX1_plugIn_48 : decode cX1_plugIn 48 = .ok (.aload_n 0, 1) := by decide +kernel
theorem dX1_plugIn_49 : decode cX1_plugIn 49 = .ok (.getfield 16, 3) := by decide +kernel
theorem dX1_plugIn_52 : decode cX1_plugIn 52 = .ok (.iload_n 1, 1) := by decide +kernel
theorem dX1_plugIn_53 : decode cX1_plugIn 53 = .ok (.baload, 1) := by decide +kernel
theorem dX1_plugIn_54 : decode cX1_plugIn 54 = .ok (.ifCond .eq 7, 3) := by decide +kernel
theorem dX1_plugIn_57 : decode cX1_plugIn 57 = .ok (.iconst 3, 1) := by decide +kernel
theorem dX1_plugIn_58 : decode cX1_plugIn 58 = .ok (.goto 4, 3) := by decide +kernel
theorem dX1_plugIn_61 : decode cX1_plugIn 61 = .ok (.iconst 0, 1) := by decide +kernel
theorem dX1_plugIn_62 : decode cX1_plugIn 62 = .ok (.putfield 42, 3) := by decide +kernel
theorem dX1_plugIn_65 : decode cX1_plugIn 65 = .ok (.aload_n 0, 1) := by decide +kernel
theorem dX1_plugIn_66 : decode cX1_plugIn 66 = .ok (.getfield 42, 3) := by decide +kernel
theorem dX1_plugIn_69 : decode cX1_plugIn 69 = .ok (.ifCond .le 5, 3) := by decide +kernel
theorem dX1_plugIn_72 : decode cX1_plugIn 72 = .ok (.iconst 0, 1) := by decide +kernel
theorem dX1_plugIn_73 : decode cX1_plugIn 73 = .ok (.ireturn, 1) := by decide +kernel
theorem dX1_plugIn_74 : decode cX1_plugIn 74 = .ok (.aload_n 0, 1) := by decide +kernel
theorem dX1_plugIn_75 : decode cX1_plugIn 75 = .ok (.getfield 16, 3) := by decide +kernel
theorem dX1_plugIn_78 : decode cX1_plugIn 78 = .ok (.iload_n 1, 1) := by decide +kernel
theorem dX1_plugIn_79 : decode cX1_plugIn 79 = .ok (.iconst 1, 1) := by decide +kernel
theorem dX1_plugIn_80 : decode cX1_plugIn 80 = .ok (.bastore, 1) := by decide +kernel
theorem dX1_plugIn_81 : decode cX1_plugIn 81 = .ok (.aload_n 0, 1) := by decide +kernel
theorem dX1_plugIn_82 : decode cX1_plugIn 82 = .ok (.getfield 20, 3) := by decide +kernel
theorem dX1_plugIn_85 : decode cX1_plugIn 85 = .ok (.iload_n 1, 1) := by decide +kernel
theorem dX1_plugIn_86 : decode cX1_plugIn 86 = .ok (.iload_n 2, 1) := by decide +kernel
theorem dX1_plugIn_87 : decode cX1_plugIn 87 = .ok (.iastore, 1) := by decide +kernel
theorem dX1_plugIn_88 : decode cX1_plugIn 88 = .ok (.aload_n 0, 1) := by decide +kernel
theorem dX1_plugIn_89 : decode cX1_plugIn 89 = .ok (.getfield 23, 3) := by decide +kernel
theorem dX1_plugIn_92 : decode cX1_plugIn 92 = .ok (.iload_n 1, 1) := by decide +kernel
theorem dX1_plugIn_93 : decode cX1_plugIn 93 = .ok (.iload_n 3, 1) := by decide +kernel
theorem dX1_plugIn_94 : decode cX1_plugIn 94 = .ok (.iastore, 1) := by decide +kernel
theorem dX1_plugIn_95 : decode cX1_plugIn 95 = .ok (.aload_n 0, 1) := by decide +kernel
theorem dX1_plugIn_96 : decode cX1_plugIn 96 = .ok (.getfield 26, 3) := by decide +kernel
theorem dX1_plugIn_99 : decode cX1_plugIn 99 = .ok (.iload_n 1, 1) := by decide +kernel
theorem dX1_plugIn_100 : decode cX1_plugIn 100 = .ok (.aload_n 0, 1) := by decide +kernel
theorem dX1_plugIn_101 : decode cX1_plugIn 101 = .ok (.getfield 55, 3) := by decide +kernel
theorem dX1_plugIn_104 : decode cX1_plugIn 104 = .ok (.iload 4, 2) := by decide +kernel
theorem dX1_plugIn_106 : decode cX1_plugIn 106 = .ok (.iadd, 1) := by decide +kernel
theorem dX1_plugIn_107 : decode cX1_plugIn 107 = .ok (.iastore, 1) := by decide +kernel
theorem dX1_plugIn_108 : decode cX1_plugIn 108 = .ok (.aload_n 0, 1) := by decide +kernel
theorem dX1_plugIn_109 : decode cX1_plugIn 109 = .ok (.iload_n 1, 1) := by decide +kernel
theorem dX1_plugIn_110 : decode cX1_plugIn 110 = .ok (.invokevirtual 76, 3) := by decide +kernel
theorem dX1_plugIn_113 : decode cX1_plugIn 113 = .ok (.ireturn, 1) := by decide +kernel
set_option maxRecDepth 20000 in
theorem ggX1_takeOut_X1_isPoint : GoodIn wsX1_takeOut wsX1_isPoint := goodIn_r _ [9, 10, 2, 11, 12, 8, 13, 14, 15, 16, 17, 18, 19, 20, 21, 22, 23, 24, 25, 26, 27, 28, 29] (by decide +kernel) (by decide +kernel)
set_option maxRecDepth 20000 in
theorem gX1_takeOut_X1_isPoint : GoodIn wsX1_takeOut (wsV RX1 72 RX1 yX1_isPoint wsX1_isPoint) := goodIn_app (goodIn_of _ (by decide +kernel)) ggX1_takeOut_X1_isPoint
theorem dX1_takeOut_0 : decode cX1_takeOut 0 = .ok (.aload_n 0, 1) := by decide +kernel
theorem dX1_takeOut_1 : decode cX1_takeOut 1 = .ok (.iload_n 1, 1) := by decide +kernel
theorem dX1_takeOut_2 : decode cX1_takeOut 2 = .ok (.invokevirtual 72, 3) := by decide +kernel
theorem dX1_takeOut_5 : decode cX1_takeOut 5 = .ok (.ifCond .ne 5, 3) := by decide +kernel
theorem dX1_takeOut_8 : decode cX1_takeOut 8 = .ok (.iconst 0, 1) := by decide +kernel
theorem dX1_takeOut_9 : decode cX1_takeOut 9 = .ok (.ireturn, 1) := by decide +kernel
theorem dX1_takeOut_10 : decode cX1_takeOut 10 = .ok (.aload_n 0, 1) := by decide +kernel
theorem dX1_takeOut_11 : decode cX1_takeOut 11 = .ok (.aload_n 0, 1) := by decide +kernel
theorem dX1_takeOut_12 : decode cX1_takeOut 12 = .ok (.getfield 16, 3) := by decide +kernel
theorem dX1_takeOut_15 : decode cX1_takeOut 15 = .ok (.iload_n 1, 1) := by decide +kernel
theorem dX1_takeOut_16 : decode cX1_takeOut 16 = .ok (.baload, 1) := by decide +kernel
theorem dX1_takeOut_17 : decode cX1_takeOut 17 = .ok (.ifCond .eq 7, 3) := by decide +kernel
theorem dX1_takeOut_20 : decode cX1_takeOut 20 = .ok (.iconst 0, 1) := by decide +kernel
theorem dX1_takeOut_21 : decode cX1_takeOut 21 = .ok (.goto 4, 3) := by decide +kernel
theorem dX1_takeOut_24 : decode cX1_takeOut 24 = .ok (.iconst 2, 1) := by decide +kernel
theorem dX1_takeOut_25 : decode cX1_takeOut 25 = .ok (.putfield 42, 3) := by decide +kernel
theorem dX1_takeOut_28 : decode cX1_takeOut 28 = .ok (.aload_n 0, 1) := by decide +kernel
theorem dX1_takeOut_29 : decode cX1_takeOut 29 = .ok (.getfield 42, 3) := by decide +kernel
theorem dX1_takeOut_32 : decode cX1_takeOut 32 = .ok (.ifCond .le 5, 3) := by decide +kernel
theorem dX1_takeOut_35 : decode cX1_takeOut 35 = .ok (.iconst 0, 1) := by decide +kernel
theorem dX1_takeOut_36 : decode cX1_takeOut 36 = .ok (.ireturn, 1) := by decide +kernel
theorem dX1_takeOut_37 : decode cX1_takeOut 37 = .ok (.aload_n 0, 1) := by decide +kernel
theorem dX1_takeOut_38 : decode cX1_takeOut 38 = .ok (.getfield 16, 3) := by decide +kernel
theorem dX1_takeOut_41 : decode cX1_takeOut 41 = .ok (.iload_n 1, 1) := by decide +kernel
theorem dX1_takeOut_42 : decode cX1_takeOut 42 = .ok (.iconst 0, 1) := by decide +kernel
theorem dX1_takeOut_43 : decode cX1_takeOut 43 = .ok (.bastore, 1) := by decide +kernel
theorem dX1_takeOut_44 : decode cX1_takeOut 44 = .ok (.aload_n 0, 1) := by decide +kernel
theorem dX1_takeOut_45 : decode cX1_takeOut 45 = .ok (.dup, 1) := by decide +kernel
theorem dX1_takeOut_46 : decode cX1_takeOut 46 = .ok (.getfield 79, 3) := by decide +kernel
theorem dX1_takeOut_49 : decode cX1_takeOut 49 = .ok (.aload_n 0, 1) := by decide +kernel
theorem dX1_takeOut_50 : decode cX1_takeOut 50 = .ok (.getfield 20, 3) := by decide +kernel
theorem dX1_takeOut_53 : decode cX1_takeOut 53 = .ok (.iload_n 1, 1) := by decide +kernel
theorem dX1_takeOut_54 : decode cX1_takeOut 54 = .ok (.iaload, 1) := by decide +kernel
theorem dX1_takeOut_55 : decode cX1_takeOut 55 = .ok (.ifCond .ne 7, 3) := by decide +kernel
theorem dX1_takeOut_58 : decode cX1_takeOut 58 = .ok (.iconst 1, 1) := by decide +kernel
theorem dX1_takeOut_59 : decode cX1_takeOut 59 = .ok (.goto 4, 3) := by decide +kernel
theorem dX1_takeOut_62 : decode cX1_takeOut 62 = .ok (.iconst 0, 1) := by decide +kernel
theorem dX1_takeOut_63 : decode cX1_takeOut 63 = .ok (.iadd, 1) := by decide +kernel
theorem dX1_takeOut_64 : decode cX1_takeOut 64 = .ok (.putfield 79, 3) := by decide +kernel
theorem dX1_takeOut_67 : decode cX1_takeOut 67 = .ok (.aload_n 0, 1) := by decide +kernel
theorem dX1_takeOut_68 : decode cX1_takeOut 68 = .ok (.getfield 20, 3) := by decide +kernel
theorem dX1_takeOut_71 : decode cX1_takeOut 71 = .ok (.iload_n 1, 1) := by decide +kernel
theorem dX1_takeOut_72 : decode cX1_takeOut 72 = .ok (.iaload, 1) := by decide +kernel
theorem dX1_takeOut_73 : decode cX1_takeOut 73 = .ok (.ireturn, 1) := by decide +kernel
set_option maxRecDepth 20000 in
theorem ggX1_appetite_X1_isPoint : GoodIn wsX1_appetite wsX1_isPoint := goodIn_r _ [8, 9, 2, 10, 11, 7, 12, 13, 14, 15, 16, 17, 18, 19, 20, 21, 22, 23, 24, 25, 26, 27, 28] (by decide +kernel) (by decide +kernel)
set_option maxRecDepth 20000 in
theorem gX1_appetite_X1_isPoint : GoodIn wsX1_appetite (wsV RX1 72 RX1 yX1_isPoint wsX1_isPoint) := goodIn_app (goodIn_of _ (by decide +kernel)) ggX1_appetite_X1_isPoint
set_option maxRecDepth 20000 in
theorem ggX1_appetite_X1_isIn : GoodIn wsX1_appetite wsX1_isIn := goodIn_r _ [12] (by decide +kernel) (by decide +kernel)
set_option maxRecDepth 20000 in
theorem gX1_appetite_X1_isIn : GoodIn wsX1_appetite (va_wsS RX1 45 yX1_isIn wsX1_isIn) := goodIn_app (goodIn_of _ (by decide +kernel)) ggX1_appetite_X1_isIn
theorem dX1_appetite_0 : decode cX1_appetite 0 = .ok (.aload_n 0, 1) := by decide +kernel
theorem dX1_appetite_1 : decode cX1_appetite 1 = .ok (.iload_n 1, 1) := by decide +kernel
theorem dX1_appetite_2 : decode cX1_appetite 2 = .ok (.invokevirtual 72, 3) := by decide +kernel
theorem dX1_appetite_5 : decode cX1_appetite 5 = .ok (.ifCond .ne 5, 3) := by decide +kernel
theorem dX1_appetite_8 : decode cX1_appetite 8 = .ok (.iconst 0, 1) := by decide +kernel
theorem dX1_appetite_9 : decode cX1_appetite 9 = .ok (.ireturn, 1) := by decide +kernel
theorem dX1_appetite_10 : decode cX1_appetite 10 = .ok (.aload_n 0, 1) := by decide +kernel
theorem dX1_appetite_11 : decode cX1_appetite 11 = .ok (.iload_n 2, 1) := by decide +kernel
theorem dX1_appetite_12 : decode cX1_appetite 12 = .ok (.iconst 1, 1) := by decide +kernel
theorem dX1_appetite_13 : decode cX1_appetite 13 = .ok (.bipush 32, 2) := by decide +kernel
theorem dX1_appetite_15 : decode cX1_appetite 15 = .ok (.invokestatic 45, 3) := by decide +kernel
theorem dX1_appetite_18 : decode cX1_appetite 18 = .ok (.ifCond .ne 7, 3) := by decide +kernel
theorem dX1_appetite_21 : decode cX1_appetite 21 = .ok (.iconst 2, 1) := by decide +kernel
theorem dX1_appetite_22 : decode cX1_appetite 22 = .ok (.goto 17, 3) := by decide +kernel
theorem dX1_appetite_25 : decode cX1_appetite 25 = .ok (.aload_n 0, 1) := by decide +kernel
theorem dX1_appetite_26 : decode cX1_appetite 26 = .ok (.getfield 16, 3) := by decide +kernel
theorem dX1_appetite_29 : decode cX1_appetite 29 = .ok (.iload_n 1, 1) := by decide +kernel
theorem dX1_appetite_30 : decode cX1_appetite 30 = .ok (.baload, 1) := by decide +kernel
theorem dX1_appetite_31 : decode cX1_appetite 31 = .ok (.ifCond .eq 7, 3) := by decide +kernel
theorem dX1_appetite_34 : decode cX1_appetite 34 = .ok (.iconst 0, 1) := by decide +kernel
theorem dX1_appetite_35 : decode cX1_appetite 35 = .ok (.goto 4, 3) := by decide +kernel
theorem dX1_appetite_38 : decode cX1_appetite 38 = .ok (.iconst 3, 1) := by decide +kernel
theorem dX1_appetite_39 : decode cX1_appetite 39 = .ok (.putfield 42, 3) := by decide +kernel
theorem dX1_appetite_42 : decode cX1_appetite 42 = .ok (.aload_n 0, 1) := by decide +kernel
theorem dX1_appetite_43 : decode cX1_appetite 43 = .ok (.getfield 42, 3) := by decide +kernel
theorem dX1_appetite_46 : decode cX1_appetite 46 = .ok (.ifCond .le 5, 3) := by decide +kernel
theorem dX1_appetite_49 : decode cX1_appetite 49 = .ok (.iconst 0, 1) := by decide +kernel
theorem dX1_appetite_50 : decode cX1_appetite 50 = .ok (.ireturn, 1) := by decide +kernel
theorem dX1_appetite_51 : decode cX1_appetite 51 = .ok (.aload_n 0, 1) := by decide +kernel
theorem dX1_appetite_52 : decode cX1_appetite 52 = .ok (.getfield 23, 3) := by decide +kernel
theorem dX1_appetite_55 : decode cX1_appetite 55 = .ok (.iload_n 1, 1) := by decide +kernel
theorem dX1_appetite_56 : decode cX1_appetite 56 = .ok (.iaload, 1) := by decide +kernel
theorem dX1_appetite_57 : decode cX1_appetite 57 = .ok (.istore_n 3, 1) := by decide +kernel
theorem dX1_appetite_58 : decode cX1_appetite 58 = .ok (.aload_n 0, 1) := by decide +kernel
theorem dX1_appetite_59 : decode cX1_appetite 59 = .ok (.getfield 23, 3) := by decide +kernel
theorem dX1_appetite_62 : decode cX1_appetite 62 = .ok (.iload_n 1, 1) := by decide +kernel
theorem dX1_appetite_63 : decode cX1_appetite 63 = .ok (.iload_n 2, 1) := by decide +kernel
theorem dX1_appetite_64 : decode cX1_appetite 64 = .ok (.iastore, 1) := by decide +kernel
theorem dX1_appetite_65 : decode cX1_appetite 65 = .ok (.iload_n 3, 1) := by decide +kernel
theorem dX1_appetite_66 : decode cX1_appetite 66 = .ok (.ireturn, 1) := by decide +kernel
set_option maxRecDepth 20000 in
theorem ggX1_stay_X1_isPoint : GoodIn wsX1_stay wsX1_isPoint := goodIn_r _ [9, 10, 2, 11, 12, 8, 13, 18, 19, 20, 21, 22, 23, 24, 25, 26, 27, 28, 29, 30, 31, 32, 33] (by decide +kernel) (by decide +kernel)
set_option maxRecDepth 20000 in
theorem gX1_stay_X1_isPoint : GoodIn wsX1_stay (wsV RX1 72 RX1 yX1_isPoint wsX1_isPoint) := goodIn_app (goodIn_of _ (by decide +kernel)) ggX1_stay_X1_isPoint
set_option maxRecDepth 20000 in
theorem ggX1_stay_X1_isIn : GoodIn wsX1_stay wsX1_isIn := goodIn_r _ [13] (by decide +kernel) (by decide +kernel)
set_option maxRecDepth 20000 in
theorem gX1_stay_X1_isIn : GoodIn wsX1_stay (va_wsS RX1 45 yX1_isIn wsX1_isIn) := goodIn_app (goodIn_of _ (by decide +kernel)) ggX1_stay_X1_isIn
set_option maxRecDepth 20000 in
theorem ggX1_stay_X1_stepsLeft : GoodIn wsX1_stay wsX1_stepsLeft := goodIn_r _ [17, 3, 4, 18, 19, 20, 21, 22, 23, 24, 25, 26, 27, 28, 29, 30, 31, 32, 33] (by decide +kernel) (by decide +kernel)
set_option maxRecDepth 20000 in
theorem gX1_stay_X1_stepsLeft : GoodIn wsX1_stay (wsV RX1 58 RX1 yX1_stepsLeft wsX1_stepsLeft) := goodIn_app (goodIn_of _ (by decide +kernel)) ggX1_stay_X1_stepsLeft
theorem dX1_stay_0 : decode cX1_stay 0 = .ok (.aload_n 0, 1) := by decide +kernel
theorem dX1_stay_1 : decode cX1_stay 1 = .ok (.iload_n 1, 1) := by decide +kernel
theorem dX1_stay_2 : decode cX1_stay 2 = .ok (.invokevirtual 72, 3) := by decide +kernel
theorem dX1_stay_5 : decode cX1_stay 5 = .ok (.ifCond .ne 5, 3) := by decide +kernel
theorem dX1_stay_8 : decode cX1_stay 8 = .ok (.iconst 0, 1) := by decide +kernel
theorem dX1_stay_9 : decode cX1_stay 9 = .ok (.ireturn, 1) := by decide +kernel
theorem dX1_stay_10 : decode cX1_stay 10 = .ok (.aload_n 0, 1) := by decide +kernel
theorem dX1_stay_11 : decode cX1_stay 11 = .ok (.iload_n 2, 1) := by decide +kernel
theorem dX1_stay_12 : decode cX1_stay 12 = .ok (.iconst 1, 1) := by decide +kernel
theorem dX1_stay_13 : decode cX1_stay 13 = .ok (.sipush 500, 3) := by decide +kernel
theorem dX1_stay_16 : decode cX1_stay 16 = .ok (.invokestatic 45, 3) := by decide +kernel
theorem dX1_stay_19 : decode cX1_stay 19 = .ok (.ifCond .ne 7, 3) := by decide +kernel
theorem dX1_stay_22 : decode cX1_stay 22 = .ok (.iconst 2, 1) := by decide +kernel
theorem dX1_stay_23 : decode cX1_stay 23 = .ok (.goto 17, 3) := by decide +kernel
theorem dX1_stay_26 : decode cX1_stay 26 = .ok (.aload_n 0, 1) := by decide +kernel
theorem dX1_stay_27 : decode cX1_stay 27 = .ok (.getfield 16, 3) := by decide +kernel
theorem dX1_stay_30 : decode cX1_stay 30 = .ok (.iload_n 1, 1) := by decide +kernel
theorem dX1_stay_31 : decode cX1_stay 31 = .ok (.baload, 1) := by decide +kernel
theorem dX1_stay_32 : decode cX1_stay 32 = .ok (.ifCond .eq 7, 3) := by decide +kernel
theorem dX1_stay_35 : decode cX1_stay 35 = .ok (.iconst 0, 1) := by decide +kernel
theorem dX1_stay_36 : decode cX1_stay 36 = .ok (.goto 4, 3) := by decide +kernel
theorem dX1_stay_39 : decode cX1_stay 39 = .ok (.iconst 3, 1) := by decide +kernel
theorem dX1_stay_40 : decode cX1_stay 40 = .ok (.putfield 42, 3) := by decide +kernel
theorem dX1_stay_43 : decode cX1_stay 43 = .ok (.aload_n 0, 1) := by decide +kernel
theorem dX1_stay_44 : decode cX1_stay 44 = .ok (.getfield 42, 3) := by decide +kernel
theorem dX1_stay_47 : decode cX1_stay 47 = .ok (.ifCond .le 5, 3) := by decide +kernel
theorem dX1_stay_50 : decode cX1_stay 50 = .ok (.iconst 0, 1) := by decide +kernel
theorem dX1_stay_51 : decode cX1_stay 51 = .ok (.ireturn, 1) := by decide +kernel
theorem dX1_stay_52 : decode cX1_stay 52 = .ok (.aload_n 0, 1) := by decide +kernel
theorem dX1_stay_53 : decode cX1_stay 53 = .ok (.getfield 26, 3) := by decide +kernel
theorem dX1_stay_56 : decode cX1_stay 56 = .ok (.iload_n 1, 1) := by decide +kernel
theorem dX1_stay_57 : decode cX1_stay 57 = .ok (.aload_n 0, 1) := by decide +kernel
theorem dX1_stay_58 : decode cX1_stay 58 = .ok (.getfield 55, 3) := by decide +kernel
theorem dX1_stay_61 : decode cX1_stay 61 = .ok (.aload_n 0, 1) := by decide +kernel
theorem dX1_stay_62 : decode cX1_stay 62 = .ok (.iload_n 1, 1) := by decide +kernel
theorem dX1_stay_63 : decode cX1_stay 63 = .ok (.invokevirtual 58, 3) := by decide +kernel
theorem dX1_stay_66 : decode cX1_stay 66 = .ok (.iadd, 1) := by decide +kernel
theorem dX1_stay_67 : decode cX1_stay 67 = .ok (.iload_n 2, 1) := by decide +kernel
theorem dX1_stay_68 : decode cX1_stay 68 = .ok (.iadd, 1) := by decide +kernel
theorem dX1_stay_69 : decode cX1_stay 69 = .ok (.iastore, 1) := by decide +kernel
theorem dX1_stay_70 : decode cX1_stay 70 = .ok (.aload_n 0, 1) := by decide +kernel
theorem dX1_stay_71 : decode cX1_stay 71 = .ok (.iload_n 1, 1) := by decide +kernel
theorem dX1_stay_72 : decode cX1_stay 72 = .ok (.invokevirtual 58, 3) := by decide +kernel
theorem dX1_stay_75 : decode cX1_stay 75 = .ok (.ireturn, 1) := by decide +kernel
theorem dX1_flows_0 : decode cX1_flows 0 = .ok (.iconst 0, 1) := by decide +kernel
theorem dX1_flows_1 : decode cX1_flows 1 = .ok (.istore_n 2, 1) := by decide +kernel
theorem dX1_flows_2 : decode cX1_flows 2 = .ok (.iconst 0, 1) := by decide +kernel
theorem dX1_flows_3 : decode cX1_flows 3 = .ok (.istore_n 3, 1) := by decide +kernel
theorem dX1_flows_4 : decode cX1_flows 4 = .ok (.iload_n 3, 1) := by decide +kernel
theorem dX1_flows_5 : decode cX1_flows 5 = .ok (.aload_n 0, 1) := by decide +kernel
theorem dX1_flows_6 : decode cX1_flows 6 = .ok (.getfield 49, 3) := by decide +kernel
theorem dX1_flows_9 : decode cX1_flows 9 = .ok (.if_icmp .ge 42, 3) := by decide +kernel
theorem dX1_flows_12 : decode cX1_flows 12 = .ok (.iload_n 2, 1) := by decide +kernel
theorem dX1_flows_13 : decode cX1_flows 13 = .ok (.aload_n 0, 1) := by decide +kernel
theorem dX1_flows_14 : decode cX1_flows 14 = .ok (.getfield 7, 3) := by decide +kernel
theorem dX1_flows_17 : decode cX1_flows 17 = .ok (.iload_n 3, 1) := by decide +kernel
theorem dX1_flows_18 : decode cX1_flows 18 = .ok (.iaload, 1) := by decide +kernel
theorem dX1_flows_19 : decode cX1_flows 19 = .ok (.iload_n 1, 1) := by decide +kernel
theorem dX1_flows_20 : decode cX1_flows 20 = .ok (.if_icmp .eq 13, 3) := by decide +kernel
theorem dX1_flows_23 : decode cX1_flows 23 = .ok (.aload_n 0, 1) := by decide +kernel
theorem dX1_flows_24 : decode cX1_flows 24 = .ok (.getfield 7, 3) := by decide +kernel
theorem dX1_flows_27 : decode cX1_flows 27 = .ok (.iload_n 3, 1) := by decide +kernel
theorem dX1_flows_28 : decode cX1_flows 28 = .ok (.iaload, 1) := by decide +kernel
theorem dX1_flows_29 : decode cX1_flows 29 = .ok (.iconst 3, 1) := by decide +kernel
theorem dX1_flows_30 : decode cX1_flows 30 = .ok (.if_icmp .ne 12, 3) := by decide +kernel
theorem dX1_flows_33 : decode cX1_flows 33 = .ok (.aload_n 0, 1) := by decide +kernel
theorem dX1_flows_34 : decode cX1_flows 34 = .ok (.getfield 36, 3) := by decide +kernel
theorem dX1_flows_37 : decode cX1_flows 37 = .ok (.iload_n 3, 1) := by decide +kernel
theorem dX1_flows_38 : decode cX1_flows 38 = .ok (.iaload, 1) := by decide +kernel
theorem dX1_flows_39 : decode cX1_flows 39 = .ok (.goto 4, 3) := by decide +kernel
theorem dX1_flows_42 : decode cX1_flows 42 = .ok (.iconst 0, 1) := by decide +kernel
theorem dX1_flows_43 : decode cX1_flows 43 = .ok (.iadd, 1) := by decide +kernel
theorem dX1_flows_44 : decode cX1_flows 44 = .ok (.istore_n 2, 1) := by decide +kernel
theorem dX1_flows_45 : decode cX1_flows 45 = .ok (.iinc 3 1, 3) := by decide +kernel
theorem dX1_flows_48 : decode cX1_flows 48 = .ok (.goto (-44), 3) := by decide +kernel
theorem dX1_flows_51 : decode cX1_flows 51 = .ok (.iload_n 2, 1) := by decide +kernel
theorem dX1_flows_52 : decode cX1_flows 52 = .ok (.ireturn, 1) := by decide +kernel
set_option maxRecDepth 20000 in
theorem ggX1_room_X1_flows : GoodIn wsX1_room wsX1_flows := goodIn_r _ [7, 8, 2, 9, 10, 11, 12, 13, 14, 15, 16, 17, 18, 19, 20, 21, 22, 23, 24, 25] (by decide +kernel) (by decide +kernel)
set_option maxRecDepth 20000 in
theorem gX1_room_X1_flows : GoodIn wsX1_room (wsV RX1 82 RX1 yX1_flows wsX1_flows) := goodIn_app (goodIn_of _ (by decide +kernel)) ggX1_room_X1_flows
theorem dX1_room_0 : decode cX1_room 0 = .ok (.bipush 100, 2) := by decide +kernel
theorem dX1_room_2 : decode cX1_room 2 = .ok (.istore_n 2, 1) := by decide +kernel
theorem dX1_room_3 : decode cX1_room 3 = .ok (.iconst 0, 1) := by decide +kernel
theorem dX1_room_4 : decode cX1_room 4 = .ok (.istore_n 3, 1) := by decide +kernel
theorem dX1_room_5 : decode cX1_room 5 = .ok (.iload_n 3, 1) := by decide +kernel
theorem dX1_room_6 : decode cX1_room 6 = .ok (.iconst 3, 1) := by decide +kernel
theorem dX1_room_7 : decode cX1_room 7 = .ok (.if_icmp .ge 56, 3) := by decide +kernel
theorem dX1_room_10 : decode cX1_room 10 = .ok (.aload_n 0, 1) := by decide +kernel
theorem dX1_room_11 : decode cX1_room 11 = .ok (.getfield 29, 3) := by decide +kernel
theorem dX1_room_14 : decode cX1_room 14 = .ok (.iload_n 3, 1) := by decide +kernel
theorem dX1_room_15 : decode cX1_room 15 = .ok (.iaload, 1) := by decide +kernel
theorem dX1_room_16 : decode cX1_room 16 = .ok (.aload_n 0, 1) := by decide +kernel
theorem dX1_room_17 : decode cX1_room 17 = .ok (.iload_n 3, 1) := by decide +kernel
theorem dX1_room_18 : decode cX1_room 18 = .ok (.invokevirtual 82, 3) := by decide +kernel
theorem dX1_room_21 : decode cX1_room 21 = .ok (.isub, 1) := by decide +kernel
theorem dX1_room_22 : decode cX1_room 22 = .ok (.istore 4, 2) := by decide +kernel
theorem dX1_room_24 : decode cX1_room 24 = .ok (.aload_n 0, 1) := by decide +kernel
theorem dX1_room_25 : decode cX1_room 25 = .ok (.getfield 7, 3) := by decide +kernel
theorem dX1_room_28 : decode cX1_room 28 = .ok (.iload_n 1, 1) := by decide +kernel
theorem dX1_room_29 : decode cX1_room 29 = .ok (.iaload, 1) := by decide +kernel
theorem dX1_room_30 : decode cX1_room 30 = .ok (.iload_n 3, 1) := by decide +kernel
theorem dX1_room_31 : decode cX1_room 31 = .ok (.if_icmp .eq 13, 3) := by decide +kernel
theorem dX1_room_34 : decode cX1_room 34 = .ok (.aload_n 0, 1) := by decide +kernel
theorem dX1_room_35 : decode cX1_room 35 = .ok (.getfield 7, 3) := by decide +kernel
theorem dX1_room_38 : decode cX1_room 38 = .ok (.iload_n 1, 1) := by decide +kernel
theorem dX1_room_39 : decode cX1_room 39 = .ok (.iaload, 1) := by decide +kernel
theorem dX1_room_40 : decode cX1_room 40 = .ok (.iconst 3, 1) := by decide +kernel
theorem dX1_room_41 : decode cX1_room 41 = .ok (.if_icmp .ne 14, 3) := by decide +kernel
theorem dX1_room_44 : decode cX1_room 44 = .ok (.iload 4, 2) := by decide +kernel
theorem dX1_room_46 : decode cX1_room 46 = .ok (.iload_n 2, 1) := by decide +kernel
theorem dX1_room_47 : decode cX1_room 47 = .ok (.if_icmp .ge 8, 3) := by decide +kernel
theorem dX1_room_50 : decode cX1_room 50 = .ok (.iload 4, 2) := by decide +kernel
theorem dX1_room_52 : decode cX1_room 52 = .ok (.goto 4, 3) := by decide +kernel
theorem dX1_room_55 : decode cX1_room 55 = .ok (.iload_n 2, 1) := by decide +kernel
theorem dX1_room_56 : decode cX1_room 56 = .ok (.istore_n 2, 1) := by decide +kernel
theorem dX1_room_57 : decode cX1_room 57 = .ok (.iinc 3 1, 3) := by decide +kernel
theorem dX1_room_60 : decode cX1_room 60 = .ok (.goto (-55), 3) := by decide +kernel
theorem dX1_room_63 : decode cX1_room 63 = .ok (.iload_n 2, 1) := by decide +kernel
theorem dX1_room_64 : decode cX1_room 64 = .ok (.ireturn, 1) := by decide +kernel
set_option maxRecDepth 20000 in
theorem ggX1_ahead_X1_reaches : GoodIn wsX1_ahead wsX1_reaches := goodIn_r _ [6, 7, 8, 9, 10, 11, 5, 12, 13, 14, 15, 16, 17, 18, 19, 20, 21, 22, 23, 24, 25, 26, 27, 28, 33, 34, 35, 36, 37, 38, 39, 40, 41, 42, 43, 44, 45, 46, 47, 48] (by decide +kernel) (by decide +kernel)
set_option maxRecDepth 20000 in
theorem gX1_ahead_X1_reaches : GoodIn wsX1_ahead (wsV RX1 85 RX1 yX1_reaches wsX1_reaches) := goodIn_app (goodIn_of _ (by decide +kernel)) ggX1_ahead_X1_reaches
set_option maxRecDepth 20000 in
theorem ggX1_ahead_X1_lax : GoodIn wsX1_ahead wsX1_lax := goodIn_r _ [32, 7, 23, 24, 25, 5, 26, 27, 28, 17, 18, 19, 20, 21, 22, 9, 10, 11, 12, 13, 14, 15, 16, 33, 34, 35, 36, 37, 38, 39, 40, 41, 42, 43, 44, 45, 46, 47, 48] (by decide +kernel) (by decide +kernel)
set_option maxRecDepth 20000 in
theorem gX1_ahead_X1_lax : GoodIn wsX1_ahead (wsV RX1 76 RX1 yX1_lax wsX1_lax) := goodIn_app (goodIn_of _ (by decide +kernel)) ggX1_ahead_X1_lax
theorem dX1_ahead_0 : decode cX1_ahead 0 = .ok (.iconst 0, 1) := by decide +kernel
theorem dX1_ahead_1 : decode cX1_ahead 1 = .ok (.istore_n 2, 1) := by decide +kernel
theorem dX1_ahead_2 : decode cX1_ahead 2 = .ok (.iconst 0, 1) := by decide +kernel
theorem dX1_ahead_3 : decode cX1_ahead 3 = .ok (.istore_n 3, 1) := by decide +kernel
theorem dX1_ahead_4 : decode cX1_ahead 4 = .ok (.iload_n 3, 1) := by decide +kernel
theorem dX1_ahead_5 : decode cX1_ahead 5 = .ok (.aload_n 0, 1) := by decide +kernel
theorem dX1_ahead_6 : decode cX1_ahead 6 = .ok (.getfield 49, 3) := by decide +kernel
theorem dX1_ahead_9 : decode cX1_ahead 9 = .ok (.if_icmp .ge 56, 3) := by decide +kernel
theorem dX1_ahead_12 : decode cX1_ahead 12 = .ok (.iload_n 2, 1) := by decide +kernel
theorem dX1_ahead_13 : decode cX1_ahead 13 = .ok (.aload_n 0, 1) := by decide +kernel
theorem dX1_ahead_14 : decode cX1_ahead 14 = .ok (.iload_n 3, 1) := by decide +kernel
theorem dX1_ahead_15 : decode cX1_ahead 15 = .ok (.invokevirtual 85, 3) := by decide +kernel
theorem dX1_ahead_18 : decode cX1_ahead 18 = .ok (.ifCond .le 38, 3) := by decide +kernel
theorem dX1_ahead_21 : decode cX1_ahead 21 = .ok (.aload_n 0, 1) := by decide +kernel
theorem dX1_ahead_22 : decode cX1_ahead 22 = .ok (.iload_n 3, 1) := by decide +kernel
theorem dX1_ahead_23 : decode cX1_ahead 23 = .ok (.invokevirtual 76, 3) := by decide +kernel
theorem dX1_ahead_26 : decode cX1_ahead 26 = .ok (.aload_n 0, 1) := by decide +kernel
theorem dX1_ahead_27 : decode cX1_ahead 27 = .ok (.iload_n 1, 1) := by decide +kernel
theorem dX1_ahead_28 : decode cX1_ahead 28 = .ok (.invokevirtual 76, 3) := by decide +kernel
theorem dX1_ahead_31 : decode cX1_ahead 31 = .ok (.if_icmp .lt 21, 3) := by decide +kernel
theorem dX1_ahead_34 : decode cX1_ahead 34 = .ok (.aload_n 0, 1) := by decide +kernel
theorem dX1_ahead_35 : decode cX1_ahead 35 = .ok (.iload_n 3, 1) := by decide +kernel
theorem dX1_ahead_36 : decode cX1_ahead 36 = .ok (.invokevirtual 76, 3) := by decide +kernel
theorem dX1_ahead_39 : decode cX1_ahead 39 = .ok (.aload_n 0, 1) := by decide +kernel
theorem dX1_ahead_40 : decode cX1_ahead 40 = .ok (.iload_n 1, 1) := by decide +kernel
theorem dX1_ahead_41 : decode cX1_ahead 41 = .ok (.invokevirtual 76, 3) := by decide +kernel
theorem dX1_ahead_44 : decode cX1_ahead 44 = .ok (.if_icmp .ne 12, 3) := by decide +kernel
theorem dX1_ahead_47 : decode cX1_ahead 47 = .ok (.iload_n 3, 1) := by decide +kernel
theorem dX1_ahead_48 : decode cX1_ahead 48 = .ok (.iload_n 1, 1) := by decide +kernel
theorem dX1_ahead_49 : decode cX1_ahead 49 = .ok (.if_icmp .ge 7, 3) := by decide +kernel
theorem dX1_ahead_52 : decode cX1_ahead 52 = .ok (.iconst 1, 1) := by decide +kernel
theorem dX1_ahead_53 : decode cX1_ahead 53 = .ok (.goto 4, 3) := by decide +kernel
theorem dX1_ahead_56 : decode cX1_ahead 56 = .ok (.iconst 0, 1) := by decide +kernel
theorem dX1_ahead_57 : decode cX1_ahead 57 = .ok (.iadd, 1) := by decide +kernel
theorem dX1_ahead_58 : decode cX1_ahead 58 = .ok (.istore_n 2, 1) := by decide +kernel
theorem dX1_ahead_59 : decode cX1_ahead 59 = .ok (.iinc 3 1, 3) := by decide +kernel
theorem dX1_ahead_62 : decode cX1_ahead 62 = .ok (.goto (-58), 3) := by decide +kernel
theorem dX1_ahead_65 : decode cX1_ahead 65 = .ok (.iload_n 2, 1) := by decide +kernel
theorem dX1_ahead_66 : decode cX1_ahead 66 = .ok (.ireturn, 1) := by decide +kernel
set_option maxRecDepth 20000 in
theorem ggX1_byLaxity_X1_reaches : GoodIn wsX1_byLaxity wsX1_reaches := goodIn_r _ [7, 8, 9, 10, 11, 12, 6, 13, 14, 15, 16, 17, 18, 19, 20, 21, 22, 23, 24, 25, 26, 27, 28, 29, 47, 48, 49, 50, 51, 52, 53, 54, 55, 56, 57, 58, 59, 60, 61, 62] (by decide +kernel) (by decide +kernel)
set_option maxRecDepth 20000 in
theorem gX1_byLaxity_X1_reaches : GoodIn wsX1_byLaxity (wsV RX1 85 RX1 yX1_reaches wsX1_reaches) := goodIn_app (goodIn_of _ (by decide +kernel)) ggX1_byLaxity_X1_reaches
set_option maxRecDepth 20000 in
theorem ggX1_byLaxity_X1_ahead : GoodIn wsX1_byLaxity wsX1_ahead := goodIn_r _ [33, 1, 3, 4, 5, 6, 7, 8, 9, 10, 11, 12, 13, 14, 15, 16, 17, 18, 19, 20, 21, 22, 23, 24, 25, 26, 27, 28, 29, 34, 35, 36, 37, 47, 48, 49, 50, 51, 52, 53, 54, 55, 56, 57, 58, 59, 60, 61, 62] (by decide +kernel) (by decide +kernel)
set_option maxRecDepth 20000 in
theorem gX1_byLaxity_X1_ahead : GoodIn wsX1_byLaxity (wsV RX1 88 RX1 yX1_ahead wsX1_ahead) := goodIn_app (goodIn_of _ (by decide +kernel)) ggX1_byLaxity_X1_ahead
set_option maxRecDepth 20000 in
theorem ggX1_byLaxity_X1_room : GoodIn wsX1_byLaxity wsX1_room := goodIn_r _ [41, 42, 14, 43, 44, 45, 6, 46, 1, 2, 47, 48, 49, 50, 51, 52, 53, 54, 55, 56, 57, 58, 59, 60, 61, 62] (by decide +kernel) (by decide +kernel)
set_option maxRecDepth 20000 in
theorem gX1_byLaxity_X1_room : GoodIn wsX1_byLaxity (wsV RX1 91 RX1 yX1_room wsX1_room) := goodIn_app (goodIn_of _ (by decide +kernel)) ggX1_byLaxity_X1_room
theorem dX1_byLaxity_0 : decode cX1_byLaxity 0 = .ok (.iconst 0, 1) := by decide +kernel
theorem dX1_byLaxity_1 : decode cX1_byLaxity 1 = .ok (.istore_n 1, 1) := by decide +kernel
theorem dX1_byLaxity_2 : decode cX1_byLaxity 2 = .ok (.iload_n 1, 1) := by decide +kernel
theorem dX1_byLaxity_3 : decode cX1_byLaxity 3 = .ok (.aload_n 0, 1) := by decide +kernel
theorem dX1_byLaxity_4 : decode cX1_byLaxity 4 = .ok (.getfield 49, 3) := by decide +kernel
theorem dX1_byLaxity_7 : decode cX1_byLaxity 7 = .ok (.if_icmp .ge 74, 3) := by decide +kernel
theorem dX1_byLaxity_10 : decode cX1_byLaxity 10 = .ok (.iconst 0, 1) := by decide +kernel
theorem dX1_byLaxity_11 : decode cX1_byLaxity 11 = .ok (.istore_n 2, 1) := by decide +kernel
theorem dX1_byLaxity_12 : decode cX1_byLaxity 12 = .ok (.iload_n 2, 1) := by decide +kernel
theorem dX1_byLaxity_13 : decode cX1_byLaxity 13 = .ok (.aload_n 0, 1) := by decide +kernel
theorem dX1_byLaxity_14 : decode cX1_byLaxity 14 = .ok (.getfield 49, 3) := by decide +kernel
theorem dX1_byLaxity_17 : decode cX1_byLaxity 17 = .ok (.if_icmp .ge 58, 3) := by decide +kernel
theorem dX1_byLaxity_20 : decode cX1_byLaxity 20 = .ok (.aload_n 0, 1) := by decide +kernel
theorem dX1_byLaxity_21 : decode cX1_byLaxity 21 = .ok (.iload_n 2, 1) := by decide +kernel
theorem dX1_byLaxity_22 : decode cX1_byLaxity 22 = .ok (.invokevirtual 85, 3) := by decide +kernel
theorem dX1_byLaxity_25 : decode cX1_byLaxity 25 = .ok (.ifCond .le 44, 3) := by decide +kernel
theorem dX1_byLaxity_28 : decode cX1_byLaxity 28 = .ok (.aload_n 0, 1) := by decide +kernel
theorem dX1_byLaxity_29 : decode cX1_byLaxity 29 = .ok (.iload_n 2, 1) := by decide +kernel
theorem dX1_byLaxity_30 : decode cX1_byLaxity 30 = .ok (.invokevirtual 88, 3) := by decide +kernel
theorem dX1_byLaxity_33 : decode cX1_byLaxity 33 = .ok (.iload_n 1, 1) := by decide +kernel
theorem dX1_byLaxity_34 : decode cX1_byLaxity 34 = .ok (.if_icmp .ne 35, 3) := by decide +kernel
theorem dX1_byLaxity_37 : decode cX1_byLaxity 37 = .ok (.aload_n 0, 1) := by decide +kernel
theorem dX1_byLaxity_38 : decode cX1_byLaxity 38 = .ok (.getfield 36, 3) := by decide +kernel
theorem dX1_byLaxity_41 : decode cX1_byLaxity 41 = .ok (.iload_n 2, 1) := by decide +kernel
theorem dX1_byLaxity_42 : decode cX1_byLaxity 42 = .ok (.aload_n 0, 1) := by decide +kernel
theorem dX1_byLaxity_43 : decode cX1_byLaxity 43 = .ok (.iload_n 2, 1) := by decide +kernel
theorem dX1_byLaxity_44 : decode cX1_byLaxity 44 = .ok (.invokevirtual 91, 3) := by decide +kernel
theorem dX1_byLaxity_47 : decode cX1_byLaxity 47 = .ok (.aload_n 0, 1) := by decide +kernel
theorem dX1_byLaxity_48 : decode cX1_byLaxity 48 = .ok (.iload_n 2, 1) := by decide +kernel
theorem dX1_byLaxity_49 : decode cX1_byLaxity 49 = .ok (.invokevirtual 85, 3) := by decide +kernel
theorem dX1_byLaxity_52 : decode cX1_byLaxity 52 = .ok (.if_icmp .ge 11, 3) := by decide +kernel
theorem dX1_byLaxity_55 : decode cX1_byLaxity 55 = .ok (.aload_n 0, 1) := by decide +kernel
theorem dX1_byLaxity_56 : decode cX1_byLaxity 56 = .ok (.iload_n 2, 1) := by decide +kernel
theorem dX1_byLaxity_57 : decode cX1_byLaxity 57 = .ok (.invokevirtual 91, 3) := by decide +kernel
theorem dX1_byLaxity_60 : decode cX1_byLaxity 60 = .ok (.goto 8, 3) := by decide +kernel
theorem dX1_byLaxity_63 : decode cX1_byLaxity 63 = .ok (.aload_n 0, 1) := by decide +kernel
theorem dX1_byLaxity_64 : decode cX1_byLaxity 64 = .ok (.iload_n 2, 1) := by decide +kernel
theorem dX1_byLaxity_65 : decode cX1_byLaxity 65 = .ok (.invokevirtual 85, 3) := by decide +kernel
theorem dX1_byLaxity_68 : decode cX1_byLaxity 68 = .ok (.iastore, 1) := by decide +kernel
theorem dX1_byLaxity_69 : decode cX1_byLaxity 69 = .ok (.iinc 2 1, 3) := by decide +kernel
theorem dX1_byLaxity_72 : decode cX1_byLaxity 72 = .ok (.goto (-60), 3) := by decide +kernel
theorem dX1_byLaxity_75 : decode cX1_byLaxity 75 = .ok (.iinc 1 1, 3) := by decide +kernel
theorem dX1_byLaxity_78 : decode cX1_byLaxity 78 = .ok (.goto (-76), 3) := by decide +kernel
theorem dX1_byLaxity_81 : decode cX1_byLaxity 81 = .ok (.return_, 1) := by decide +kernel
set_option maxRecDepth 20000 in
theorem ggX1_fairly_X1_reaches : GoodIn wsX1_fairly wsX1_reaches := goodIn_r _ [8, 9, 10, 11, 12, 13, 7, 14, 15, 16, 17, 18, 19, 20, 21, 22, 23, 24, 25, 26, 27, 28, 29, 30, 40, 41, 42, 43, 44, 45, 46, 47, 48, 49, 50, 51, 52, 53, 54, 55] (by decide +kernel) (by decide +kernel)
set_option maxRecDepth 20000 in
theorem gX1_fairly_X1_reaches : GoodIn wsX1_fairly (wsV RX1 85 RX1 yX1_reaches wsX1_reaches) := goodIn_app (goodIn_of _ (by decide +kernel)) ggX1_fairly_X1_reaches
set_option maxRecDepth 20000 in
theorem ggX1_fairly_X1_room : GoodIn wsX1_fairly wsX1_room := goodIn_r _ [34, 35, 15, 36, 37, 38, 7, 39, 1, 2, 40, 41, 42, 43, 44, 45, 46, 47, 48, 49, 50, 51, 52, 53, 54, 55] (by decide +kernel) (by decide +kernel)
set_option maxRecDepth 20000 in
theorem gX1_fairly_X1_room : GoodIn wsX1_fairly (wsV RX1 91 RX1 yX1_room wsX1_room) := goodIn_app (goodIn_of _ (by decide +kernel)) ggX1_fairly_X1_room
theorem dX1_fairly_0 : decode cX1_fairly 0 = .ok (.iconst 1, 1) := by decide +kernel
theorem dX1_fairly_1 : decode cX1_fairly 1 = .ok (.istore_n 1, 1) := by decide +kernel
theorem dX1_fairly_2 : decode cX1_fairly 2 = .ok (.iload_n 1, 1) := by decide +kernel
theorem dX1_fairly_3 : decode cX1_fairly 3 = .ok (.ifCond .eq 107, 3) := by decide +kernel
theorem dX1_fairly_6 : decode cX1_fairly 6 = .ok (.iconst 0, 1) := by decide +kernel
theorem dX1_fairly_7 : decode cX1_fairly 7 = .ok (.istore_n 1, 1) := by decide +kernel
theorem dX1_fairly_8 : decode cX1_fairly 8 = .ok (.iconst 0, 1) := by decide +kernel
theorem dX1_fairly_9 : decode cX1_fairly 9 = .ok (.istore_n 2, 1) := by decide +kernel
theorem dX1_fairly_10 : decode cX1_fairly 10 = .ok (.iload_n 2, 1) := by decide +kernel
theorem dX1_fairly_11 : decode cX1_fairly 11 = .ok (.aload_n 0, 1) := by decide +kernel
theorem dX1_fairly_12 : decode cX1_fairly 12 = .ok (.getfield 49, 3) := by decide +kernel
theorem dX1_fairly_15 : decode cX1_fairly 15 = .ok (.if_icmp .ge 92, 3) := by decide +kernel
theorem dX1_fairly_18 : decode cX1_fairly 18 = .ok (.aload_n 0, 1) := by decide +kernel
theorem dX1_fairly_19 : decode cX1_fairly 19 = .ok (.getfield 36, 3) := by decide +kernel
theorem dX1_fairly_22 : decode cX1_fairly 22 = .ok (.iload_n 2, 1) := by decide +kernel
theorem dX1_fairly_23 : decode cX1_fairly 23 = .ok (.iaload, 1) := by decide +kernel
theorem dX1_fairly_24 : decode cX1_fairly 24 = .ok (.aload_n 0, 1) := by decide +kernel
theorem dX1_fairly_25 : decode cX1_fairly 25 = .ok (.iload_n 2, 1) := by decide +kernel
theorem dX1_fairly_26 : decode cX1_fairly 26 = .ok (.invokevirtual 85, 3) := by decide +kernel
theorem dX1_fairly_29 : decode cX1_fairly 29 = .ok (.if_icmp .ge 72, 3) := by decide +kernel
theorem dX1_fairly_32 : decode cX1_fairly 32 = .ok (.aload_n 0, 1) := by decide +kernel
theorem dX1_fairly_33 : decode cX1_fairly 33 = .ok (.getfield 39, 3) := by decide +kernel
theorem dX1_fairly_36 : decode cX1_fairly 36 = .ok (.iload_n 2, 1) := by decide +kernel
theorem dX1_fairly_37 : decode cX1_fairly 37 = .ok (.baload, 1) := by decide +kernel
theorem dX1_fairly_38 : decode cX1_fairly 38 = .ok (.ifCond .ne 63, 3) := by decide +kernel
theorem dX1_fairly_41 : decode cX1_fairly 41 = .ok (.aload_n 0, 1) := by decide +kernel
theorem dX1_fairly_42 : decode cX1_fairly 42 = .ok (.getfield 39, 3) := by decide +kernel
theorem dX1_fairly_45 : decode cX1_fairly 45 = .ok (.iload_n 2, 1) := by decide +kernel
theorem dX1_fairly_46 : decode cX1_fairly 46 = .ok (.aload_n 0, 1) := by decide +kernel
theorem dX1_fairly_47 : decode cX1_fairly 47 = .ok (.iload_n 2, 1) := by decide +kernel
theorem dX1_fairly_48 : decode cX1_fairly 48 = .ok (.invokevirtual 91, 3) := by decide +kernel
theorem dX1_fairly_51 : decode cX1_fairly 51 = .ok (.iconst 1, 1) := by decide +kernel
theorem dX1_fairly_52 : decode cX1_fairly 52 = .ok (.if_icmp .ge 7, 3) := by decide +kernel
theorem dX1_fairly_55 : decode cX1_fairly 55 = .ok (.iconst 1, 1) := by decide +kernel
theorem dX1_fairly_56 : decode cX1_fairly 56 = .ok (.goto 4, 3) := by decide +kernel
theorem dX1_fairly_59 : decode cX1_fairly 59 = .ok (.iconst 0, 1) := by decide +kernel
theorem dX1_fairly_60 : decode cX1_fairly 60 = .ok (.bastore, 1) := by decide +kernel
theorem dX1_fairly_61 : decode cX1_fairly 61 = .ok (.aload_n 0, 1) := by decide +kernel
theorem dX1_fairly_62 : decode cX1_fairly 62 = .ok (.getfield 36, 3) := by decide +kernel
theorem dX1_fairly_65 : decode cX1_fairly 65 = .ok (.iload_n 2, 1) := by decide +kernel
theorem dX1_fairly_66 : decode cX1_fairly 66 = .ok (.dup2, 1) := by decide +kernel
theorem dX1_fairly_67 : decode cX1_fairly 67 = .ok (.iaload, 1) := by decide +kernel
theorem dX1_fairly_68 : decode cX1_fairly 68 = .ok (.aload_n 0, 1) := by decide +kernel
theorem dX1_fairly_69 : decode cX1_fairly 69 = .ok (.getfield 39, 3) := by decide +kernel
theorem dX1_fairly_72 : decode cX1_fairly 72 = .ok (.iload_n 2, 1) := by decide +kernel
theorem dX1_fairly_73 : decode cX1_fairly 73 = .ok (.baload, 1) := by decide +kernel
theorem dX1_fairly_74 : decode cX1_fairly 74 = .ok (.ifCond .eq 7, 3) := by decide +kernel
theorem dX1_fairly_77 : decode cX1_fairly 77 = .ok (.iconst 0, 1) := by decide +kernel
theorem dX1_fairly_78 : decode cX1_fairly 78 = .ok (.goto 4, 3) := by decide +kernel
theorem dX1_fairly_81 : decode cX1_fairly 81 = .ok (.iconst 1, 1) := by decide +kernel
theorem dX1_fairly_82 : decode cX1_fairly 82 = .ok (.iadd, 1) := by decide +kernel
theorem dX1_fairly_83 : decode cX1_fairly 83 = .ok (.iastore, 1) := by decide +kernel
theorem dX1_fairly_84 : decode cX1_fairly 84 = .ok (.iload_n 1, 1) := by decide +kernel
theorem dX1_fairly_85 : decode cX1_fairly 85 = .ok (.aload_n 0, 1) := by decide +kernel
theorem dX1_fairly_86 : decode cX1_fairly 86 = .ok (.getfield 39, 3) := by decide +kernel
theorem dX1_fairly_89 : decode cX1_fairly 89 = .ok (.iload_n 2, 1) := by decide +kernel
theorem dX1_fairly_90 : decode cX1_fairly 90 = .ok (.baload, 1) := by decide +kernel
theorem dX1_fairly_91 : decode cX1_fairly 91 = .ok (.ifCond .ne 7, 3) := by decide +kernel
theorem dX1_fairly_94 : decode cX1_fairly 94 = .ok (.iconst 1, 1) := by decide +kernel
theorem dX1_fairly_95 : decode cX1_fairly 95 = .ok (.goto 4, 3) := by decide +kernel
theorem dX1_fairly_98 : decode cX1_fairly 98 = .ok (.iconst 0, 1) := by decide +kernel
theorem dX1_fairly_99 : decode cX1_fairly 99 = .ok (.ior, 1) := by decide +kernel
theorem dX1_fairly_100 : decode cX1_fairly 100 = .ok (.istore_n 1, 1) := by decide +kernel
theorem dX1_fairly_101 : decode cX1_fairly 101 = .ok (.iinc 2 1, 3) := by decide +kernel
theorem dX1_fairly_104 : decode cX1_fairly 104 = .ok (.goto (-94), 3) := by decide +kernel
theorem dX1_fairly_107 : decode cX1_fairly 107 = .ok (.goto (-105), 3) := by decide +kernel
theorem dX1_fairly_110 : decode cX1_fairly 110 = .ok (.return_, 1) := by decide +kernel
set_option maxRecDepth 20000 in
theorem ggX1_high_X1_flows : GoodIn wsX1_high wsX1_flows := goodIn_r _ [5, 6, 7, 8, 9, 10, 11, 12, 13, 14, 15, 16, 17, 18, 19, 20, 21, 22, 23, 24] (by decide +kernel) (by decide +kernel)
set_option maxRecDepth 20000 in
theorem gX1_high_X1_flows : GoodIn wsX1_high (wsV RX1 82 RX1 yX1_flows wsX1_flows) := goodIn_app (goodIn_of _ (by decide +kernel)) ggX1_high_X1_flows
theorem dX1_high_0 : decode cX1_high 0 = .ok (.iconst 0, 1) := by decide +kernel
theorem dX1_high_1 : decode cX1_high 1 = .ok (.istore_n 1, 1) := by decide +kernel
theorem dX1_high_2 : decode cX1_high 2 = .ok (.iconst 1, 1) := by decide +kernel
theorem dX1_high_3 : decode cX1_high 3 = .ok (.istore_n 2, 1) := by decide +kernel
theorem dX1_high_4 : decode cX1_high 4 = .ok (.iload_n 2, 1) := by decide +kernel
theorem dX1_high_5 : decode cX1_high 5 = .ok (.iconst 3, 1) := by decide +kernel
theorem dX1_high_6 : decode cX1_high 6 = .ok (.if_icmp .ge 28, 3) := by decide +kernel
theorem dX1_high_9 : decode cX1_high 9 = .ok (.aload_n 0, 1) := by decide +kernel
theorem dX1_high_10 : decode cX1_high 10 = .ok (.iload_n 2, 1) := by decide +kernel
theorem dX1_high_11 : decode cX1_high 11 = .ok (.invokevirtual 82, 3) := by decide +kernel
theorem dX1_high_14 : decode cX1_high 14 = .ok (.aload_n 0, 1) := by decide +kernel
theorem dX1_high_15 : decode cX1_high 15 = .ok (.iload_n 1, 1) := by decide +kernel
theorem dX1_high_16 : decode cX1_high 16 = .ok (.invokevirtual 82, 3) := by decide +kernel
theorem dX1_high_19 : decode cX1_high 19 = .ok (.if_icmp .le 7, 3) := by decide +kernel
theorem dX1_high_22 : decode cX1_high 22 = .ok (.iload_n 2, 1) := by decide +kernel
theorem dX1_high_23 : decode cX1_high 23 = .ok (.goto 4, 3) := by decide +kernel
theorem dX1_high_26 : decode cX1_high 26 = .ok (.iload_n 1, 1) := by decide +kernel
theorem dX1_high_27 : decode cX1_high 27 = .ok (.istore_n 1, 1) := by decide +kernel
theorem dX1_high_28 : decode cX1_high 28 = .ok (.iinc 2 1, 3) := by decide +kernel
theorem dX1_high_31 : decode cX1_high 31 = .ok (.goto (-27), 3) := by decide +kernel
theorem dX1_high_34 : decode cX1_high 34 = .ok (.iload_n 1, 1) := by decide +kernel
theorem dX1_high_35 : decode cX1_high 35 = .ok (.ireturn, 1) := by decide +kernel
set_option maxRecDepth 20000 in
theorem ggX1_apart_X1_flows : GoodIn wsX1_apart wsX1_flows := goodIn_r _ [5, 6, 7, 8, 13, 14, 15, 16, 17, 18, 19, 20, 21, 22, 23, 24, 25, 26, 27, 28] (by decide +kernel) (by decide +kernel)
set_option maxRecDepth 20000 in
theorem gX1_apart_X1_flows : GoodIn wsX1_apart (wsV RX1 82 RX1 yX1_flows wsX1_flows) := goodIn_app (goodIn_of _ (by decide +kernel)) ggX1_apart_X1_flows
set_option maxRecDepth 20000 in
theorem ggX1_apart_X1_high : GoodIn wsX1_apart wsX1_high := goodIn_r _ [12, 1, 2, 3, 4, 5, 6, 7, 8, 13, 14, 15, 16, 17, 18, 19, 20, 21, 22, 23, 24, 25, 26, 27, 28] (by decide +kernel) (by decide +kernel)
set_option maxRecDepth 20000 in
theorem gX1_apart_X1_high : GoodIn wsX1_apart (wsV RX1 94 RX1 yX1_high wsX1_high) := goodIn_app (goodIn_of _ (by decide +kernel)) ggX1_apart_X1_high
theorem dX1_apart_0 : decode cX1_apart 0 = .ok (.aload_n 0, 1) := by decide +kernel
theorem dX1_apart_1 : decode cX1_apart 1 = .ok (.iconst 0, 1) := by decide +kernel
theorem dX1_apart_2 : decode cX1_apart 2 = .ok (.invokevirtual 82, 3) := by decide +kernel
theorem dX1_apart_5 : decode cX1_apart 5 = .ok (.istore_n 1, 1) := by decide +kernel
theorem dX1_apart_6 : decode cX1_apart 6 = .ok (.iconst 1, 1) := by decide +kernel
theorem dX1_apart_7 : decode cX1_apart 7 = .ok (.istore_n 2, 1) := by decide +kernel
theorem dX1_apart_8 : decode cX1_apart 8 = .ok (.iload_n 2, 1) := by decide +kernel
theorem dX1_apart_9 : decode cX1_apart 9 = .ok (.iconst 3, 1) := by decide +kernel
theorem dX1_apart_10 : decode cX1_apart 10 = .ok (.if_icmp .ge 28, 3) := by decide +kernel
theorem dX1_apart_13 : decode cX1_apart 13 = .ok (.aload_n 0, 1) := by decide +kernel
theorem dX1_apart_14 : decode cX1_apart 14 = .ok (.iload_n 2, 1) := by decide +kernel
theorem dX1_apart_15 : decode cX1_apart 15 = .ok (.invokevirtual 82, 3) := by decide +kernel
theorem dX1_apart_18 : decode cX1_apart 18 = .ok (.iload_n 1, 1) := by decide +kernel
theorem dX1_apart_19 : decode cX1_apart 19 = .ok (.if_icmp .ge 11, 3) := by decide +kernel
theorem dX1_apart_22 : decode cX1_apart 22 = .ok (.aload_n 0, 1) := by decide +kernel
theorem dX1_apart_23 : decode cX1_apart 23 = .ok (.iload_n 2, 1) := by decide +kernel
theorem dX1_apart_24 : decode cX1_apart 24 = .ok (.invokevirtual 82, 3) := by decide +kernel
theorem dX1_apart_27 : decode cX1_apart 27 = .ok (.goto 4, 3) := by decide +kernel
theorem dX1_apart_30 : decode cX1_apart 30 = .ok (.iload_n 1, 1) := by decide +kernel
theorem dX1_apart_31 : decode cX1_apart 31 = .ok (.istore_n 1, 1) := by decide +kernel
theorem dX1_apart_32 : decode cX1_apart 32 = .ok (.iinc 2 1, 3) := by decide +kernel
theorem dX1_apart_35 : decode cX1_apart 35 = .ok (.goto (-27), 3) := by decide +kernel
theorem dX1_apart_38 : decode cX1_apart 38 = .ok (.aload_n 0, 1) := by decide +kernel
theorem dX1_apart_39 : decode cX1_apart 39 = .ok (.aload_n 0, 1) := by decide +kernel
theorem dX1_apart_40 : decode cX1_apart 40 = .ok (.invokevirtual 94, 3) := by decide +kernel
theorem dX1_apart_43 : decode cX1_apart 43 = .ok (.invokevirtual 82, 3) := by decide +kernel
theorem dX1_apart_46 : decode cX1_apart 46 = .ok (.iload_n 1, 1) := by decide +kernel
theorem dX1_apart_47 : decode cX1_apart 47 = .ok (.isub, 1) := by decide +kernel
theorem dX1_apart_48 : decode cX1_apart 48 = .ok (.ireturn, 1) := by decide +kernel
theorem dX1_giver_0 : decode cX1_giver 0 = .ok (.iconst (-1), 1) := by decide +kernel
theorem dX1_giver_1 : decode cX1_giver 1 = .ok (.istore_n 2, 1) := by decide +kernel
theorem dX1_giver_2 : decode cX1_giver 2 = .ok (.iconst 1, 1) := by decide +kernel
theorem dX1_giver_3 : decode cX1_giver 3 = .ok (.istore_n 3, 1) := by decide +kernel
theorem dX1_giver_4 : decode cX1_giver 4 = .ok (.iconst 0, 1) := by decide +kernel
theorem dX1_giver_5 : decode cX1_giver 5 = .ok (.istore 4, 2) := by decide +kernel
theorem dX1_giver_7 : decode cX1_giver 7 = .ok (.iload 4, 2) := by decide +kernel
theorem dX1_giver_9 : decode cX1_giver 9 = .ok (.aload_n 0, 1) := by decide +kernel
theorem dX1_giver_10 : decode cX1_giver 10 = .ok (.getfield 49, 3) := by decide +kernel
theorem dX1_giver_13 : decode cX1_giver 13 = .ok (.if_icmp .ge 67, 3) := by decide +kernel
theorem dX1_giver_16 : decode cX1_giver 16 = .ok (.aload_n 0, 1) := by decide +kernel
theorem dX1_giver_17 : decode cX1_giver 17 = .ok (.getfield 7, 3) := by decide +kernel
theorem dX1_giver_20 : decode cX1_giver 20 = .ok (.iload 4, 2) := by decide +kernel
theorem dX1_giver_22 : decode cX1_giver 22 = .ok (.iaload, 1) := by decide +kernel
theorem dX1_giver_23 : decode cX1_giver 23 = .ok (.iload_n 1, 1) := by decide +kernel
theorem dX1_giver_24 : decode cX1_giver 24 = .ok (.if_icmp .ne 18, 3) := by decide +kernel
theorem dX1_giver_27 : decode cX1_giver 27 = .ok (.aload_n 0, 1) := by decide +kernel
theorem dX1_giver_28 : decode cX1_giver 28 = .ok (.getfield 36, 3) := by decide +kernel
theorem dX1_giver_31 : decode cX1_giver 31 = .ok (.iload 4, 2) := by decide +kernel
theorem dX1_giver_33 : decode cX1_giver 33 = .ok (.iaload, 1) := by decide +kernel
theorem dX1_giver_34 : decode cX1_giver 34 = .ok (.iload_n 3, 1) := by decide +kernel
theorem dX1_giver_35 : decode cX1_giver 35 = .ok (.if_icmp .lt 7, 3) := by decide +kernel
theorem dX1_giver_38 : decode cX1_giver 38 = .ok (.iconst 1, 1) := by decide +kernel
theorem dX1_giver_39 : decode cX1_giver 39 = .ok (.goto 4, 3) := by decide +kernel
theorem dX1_giver_42 : decode cX1_giver 42 = .ok (.iconst 0, 1) := by decide +kernel
theorem dX1_giver_43 : decode cX1_giver 43 = .ok (.istore 5, 2) := by decide +kernel
theorem dX1_giver_45 : decode cX1_giver 45 = .ok (.iload 5, 2) := by decide +kernel
theorem dX1_giver_47 : decode cX1_giver 47 = .ok (.ifCond .eq 8, 3) := by decide +kernel
theorem dX1_giver_50 : decode cX1_giver 50 = .ok (.iload 4, 2) := by decide +kernel
theorem dX1_giver_52 : decode cX1_giver 52 = .ok (.goto 4, 3) := by decide +kernel
theorem dX1_giver_55 : decode cX1_giver 55 = .ok (.iload_n 2, 1) := by decide +kernel
theorem dX1_giver_56 : decode cX1_giver 56 = .ok (.istore_n 2, 1) := by decide +kernel
theorem dX1_giver_57 : decode cX1_giver 57 = .ok (.iload 5, 2) := by decide +kernel
theorem dX1_giver_59 : decode cX1_giver 59 = .ok (.ifCond .eq 13, 3) := by decide +kernel
theorem dX1_giver_62 : decode cX1_giver 62 = .ok (.aload_n 0, 1) := by decide +kernel
theorem dX1_giver_63 : decode cX1_giver 63 = .ok (.getfield 36, 3) := by decide +kernel
theorem dX1_giver_66 : decode cX1_giver 66 = .ok (.iload 4, 2) := by decide +kernel
theorem dX1_giver_68 : decode cX1_giver 68 = .ok (.iaload, 1) := by decide +kernel
theorem dX1_giver_69 : decode cX1_giver 69 = .ok (.goto 4, 3) := by decide +kernel
theorem dX1_giver_72 : decode cX1_giver 72 = .ok (.iload_n 3, 1) := by decide +kernel
theorem dX1_giver_73 : decode cX1_giver 73 = .ok (.istore_n 3, 1) := by decide +kernel
theorem dX1_giver_74 : decode cX1_giver 74 = .ok (.iinc 4 1, 3) := by decide +kernel
theorem dX1_giver_77 : decode cX1_giver 77 = .ok (.goto (-70), 3) := by decide +kernel
theorem dX1_giver_80 : decode cX1_giver 80 = .ok (.iload_n 2, 1) := by decide +kernel
theorem dX1_giver_81 : decode cX1_giver 81 = .ok (.ireturn, 1) := by decide +kernel
set_option maxRecDepth 20000 in
theorem ggX1_shares_X1_byLaxity : GoodIn wsX1_shares wsX1_byLaxity := goodIn_r _ [9, 10, 1, 11, 12, 13, 8, 14, 15, 16, 17, 18, 19, 20, 21, 22, 23, 24, 25, 26, 27, 28, 29, 30, 31, 32, 33, 34, 35, 36, 37, 38, 39, 40, 41, 42, 43, 44, 45, 46, 47, 48, 49, 50, 51, 52, 53, 70, 71, 72, 73, 74, 75, 76, 77, 78, 79, 80, 81, 82, 83, 84, 85] (by decide +kernel) (by decide +kernel)
set_option maxRecDepth 20000 in
theorem gX1_shares_X1_byLaxity : GoodIn wsX1_shares (wsV RX1 98 RX1 yX1_byLaxity wsX1_byLaxity) := goodIn_app (goodIn_of _ (by decide +kernel)) ggX1_shares_X1_byLaxity
set_option maxRecDepth 20000 in
theorem ggX1_shares_X1_fairly : GoodIn wsX1_shares wsX1_fairly := goodIn_r _ [57, 10, 1, 2, 11, 12, 13, 8, 14, 15, 16, 17, 18, 19, 20, 21, 22, 23, 24, 25, 26, 27, 28, 29, 30, 31, 32, 33, 34, 35, 36, 45, 46, 47, 48, 49, 50, 51, 52, 53, 70, 71, 72, 73, 74, 75, 76, 77, 78, 79, 80, 81, 82, 83, 84, 85] (by decide +kernel) (by decide +kernel)
set_option maxRecDepth 20000 in
theorem gX1_shares_X1_fairly : GoodIn wsX1_shares (wsV RX1 101 RX1 yX1_fairly wsX1_fairly) := goodIn_app (goodIn_of _ (by decide +kernel)) ggX1_shares_X1_fairly
set_option maxRecDepth 20000 in
theorem ggX1_shares_X1_apart : GoodIn wsX1_shares wsX1_apart := goodIn_r _ [61, 50, 51, 52, 8, 53, 10, 21, 1, 62, 63, 64, 65, 70, 71, 72, 73, 74, 75, 76, 77, 78, 79, 80, 81, 82, 83, 84, 85] (by decide +kernel) (by decide +kernel)
set_option maxRecDepth 20000 in
theorem gX1_shares_X1_apart : GoodIn wsX1_shares (wsV RX1 104 RX1 yX1_apart wsX1_apart) := goodIn_app (goodIn_of _ (by decide +kernel)) ggX1_shares_X1_apart
set_option maxRecDepth 20000 in
theorem ggX1_shares_X1_high : GoodIn wsX1_shares wsX1_high := goodIn_r _ [65, 50, 51, 52, 8, 53, 10, 21, 1, 70, 71, 72, 73, 74, 75, 76, 77, 78, 79, 80, 81, 82, 83, 84, 85] (by decide +kernel) (by decide +kernel)
set_option maxRecDepth 20000 in
theorem gX1_shares_X1_high : GoodIn wsX1_shares (wsV RX1 94 RX1 yX1_high wsX1_high) := goodIn_app (goodIn_of _ (by decide +kernel)) ggX1_shares_X1_high
set_option maxRecDepth 20000 in
theorem ggX1_shares_X1_giver : GoodIn wsX1_shares wsX1_giver := goodIn_r _ [69, 10, 21, 1, 70, 71, 72, 73, 74, 75, 76, 77, 78, 79, 80, 81, 82, 83, 84, 85] (by decide +kernel) (by decide +kernel)
set_option maxRecDepth 20000 in
theorem gX1_shares_X1_giver : GoodIn wsX1_shares (wsV RX1 107 RX1 yX1_giver wsX1_giver) := goodIn_app (goodIn_of _ (by decide +kernel)) ggX1_shares_X1_giver
theorem dX1_shares_0 : decode cX1_shares 0 = .ok (.iconst 0, 1) := by decide +kernel
theorem dX1_shares_1 : decode cX1_shares 1 = .ok (.istore_n 1, 1) := by decide +kernel
theorem dX1_shares_2 : decode cX1_shares 2 = .ok (.iload_n 1, 1) := by decide +kernel
theorem dX1_shares_3 : decode cX1_shares 3 = .ok (.bipush 8, 2) := by decide +kernel
theorem dX1_shares_5 : decode cX1_shares 5 = .ok (.if_icmp .ge 23, 3) := by decide +kernel
theorem dX1_shares_8 : decode cX1_shares 8 = .ok (.aload_n 0, 1) := by decide +kernel
theorem dX1_shares_9 : decode cX1_shares 9 = .ok (.getfield 36, 3) := by decide +kernel
theorem dX1_shares_12 : decode cX1_shares 12 = .ok (.iload_n 1, 1) := by decide +kernel
theorem dX1_shares_13 : decode cX1_shares 13 = .ok (.iconst 0, 1) := by decide +kernel
theorem dX1_shares_14 : decode cX1_shares 14 = .ok (.iastore, 1) := by decide +kernel
theorem dX1_shares_15 : decode cX1_shares 15 = .ok (.aload_n 0, 1) := by decide +kernel
theorem dX1_shares_16 : decode cX1_shares 16 = .ok (.getfield 39, 3) := by decide +kernel
theorem dX1_shares_19 : decode cX1_shares 19 = .ok (.iload_n 1, 1) := by decide +kernel
theorem dX1_shares_20 : decode cX1_shares 20 = .ok (.iconst 0, 1) := by decide +kernel
theorem dX1_shares_21 : decode cX1_shares 21 = .ok (.bastore, 1) := by decide +kernel
theorem dX1_shares_22 : decode cX1_shares 22 = .ok (.iinc 1 1, 3) := by decide +kernel
theorem dX1_shares_25 : decode cX1_shares 25 = .ok (.goto (-23), 3) := by decide +kernel
theorem dX1_shares_28 : decode cX1_shares 28 = .ok (.aload_n 0, 1) := by decide +kernel
theorem dX1_shares_29 : decode cX1_shares 29 = .ok (.getfield 52, 3) := by decide +kernel
theorem dX1_shares_32 : decode cX1_shares 32 = .ok (.ifCond .ne 10, 3) := by decide +kernel
theorem dX1_shares_35 : decode cX1_shares 35 = .ok (.aload_n 0, 1) := by decide +kernel
theorem dX1_shares_36 : decode cX1_shares 36 = .ok (.invokevirtual 98, 3) := by decide +kernel
theorem dX1_shares_39 : decode cX1_shares 39 = .ok (.goto 7, 3) := by decide +kernel
theorem dX1_shares_42 : decode cX1_shares 42 = .ok (.aload_n 0, 1) := by decide +kernel
theorem dX1_shares_43 : decode cX1_shares 43 = .ok (.invokevirtual 101, 3) := by decide +kernel
theorem dX1_shares_46 : decode cX1_shares 46 = .ok (.aload_n 0, 1) := by decide +kernel
theorem dX1_shares_47 : decode cX1_shares 47 = .ok (.invokevirtual 104, 3) := by decide +kernel
theorem dX1_shares_50 : decode cX1_shares 50 = .ok (.aload_n 0, 1) := by decide +kernel
theorem dX1_shares_51 : decode cX1_shares 51 = .ok (.getfield 32, 3) := by decide +kernel
theorem dX1_shares_54 : decode cX1_shares 54 = .ok (.if_icmp .le 34, 3) := by decide +kernel
theorem dX1_shares_57 : decode cX1_shares 57 = .ok (.aload_n 0, 1) := by decide +kernel
theorem dX1_shares_58 : decode cX1_shares 58 = .ok (.aload_n 0, 1) := by decide +kernel
theorem dX1_shares_59 : decode cX1_shares 59 = .ok (.invokevirtual 94, 3) := by decide +kernel
theorem dX1_shares_62 : decode cX1_shares 62 = .ok (.invokevirtual 107, 3) := by decide +kernel
theorem dX1_shares_65 : decode cX1_shares 65 = .ok (.ifCond .lt 23, 3) := by decide +kernel
theorem dX1_shares_68 : decode cX1_shares 68 = .ok (.aload_n 0, 1) := by decide +kernel
theorem dX1_shares_69 : decode cX1_shares 69 = .ok (.getfield 36, 3) := by decide +kernel
theorem dX1_shares_72 : decode cX1_shares 72 = .ok (.aload_n 0, 1) := by decide +kernel
theorem dX1_shares_73 : decode cX1_shares 73 = .ok (.aload_n 0, 1) := by decide +kernel
theorem dX1_shares_74 : decode cX1_shares 74 = .ok (.invokevirtual 94, 3) := by decide +kernel
theorem dX1_shares_77 : decode cX1_shares 77 = .ok (.invokevirtual 107, 3) := by decide +kernel
theorem dX1_shares_80 : decode cX1_shares 80 = .ok (.dup2, 1) := by decide +kernel
theorem dX1_shares_81 : decode cX1_shares 81 = .ok (.iaload, 1) := by decide +kernel
theorem dX1_shares_82 : decode cX1_shares 82 = .ok (.iconst 1, 1) := by decide +kernel
theorem dX1_shares_83 : decode cX1_shares 83 = .ok (.isub, 1) := by decide +kernel
theorem dX1_shares_84 : decode cX1_shares 84 = .ok (.iastore, 1) := by decide +kernel
theorem dX1_shares_85 : decode cX1_shares 85 = .ok (.goto (-39), 3) := by decide +kernel
theorem dX1_shares_88 : decode cX1_shares 88 = .ok (.return_, 1) := by decide +kernel
set_option maxRecDepth 20000 in
theorem ggX1_step_X1_isIn : GoodIn wsX1_step wsX1_isIn := goodIn_r _ [10] (by decide +kernel) (by decide +kernel)
set_option maxRecDepth 20000 in
theorem gX1_step_X1_isIn : GoodIn wsX1_step (va_wsS RX1 45 yX1_isIn wsX1_isIn) := goodIn_app (goodIn_of _ (by decide +kernel)) ggX1_step_X1_isIn
set_option maxRecDepth 20000 in
theorem ggX1_step_X1_shares : GoodIn wsX1_step wsX1_shares := goodIn_r _ [14, 3, 15, 16, 17, 18, 19, 20, 9, 21, 2, 22, 23, 24, 25, 4, 26, 27, 28, 29, 30, 31, 32, 33, 34, 35, 36, 37, 38, 39, 40, 41, 42, 43, 44, 45, 5, 46, 47, 48, 49, 50, 51, 52, 53, 54, 55, 56, 57, 58, 59, 60, 61, 62, 63, 64, 65, 66, 67, 68, 69, 70, 71, 72, 73, 74, 75, 76, 77, 78, 79, 80, 81, 82, 83, 84, 85, 86, 87, 88, 89, 90, 91, 92, 93, 94] (by decide +kernel) (by decide +kernel)
set_option maxRecDepth 20000 in
theorem gX1_step_X1_shares : GoodIn wsX1_step (wsV RX1 110 RX1 yX1_shares wsX1_shares) := goodIn_app (goodIn_of _ (by decide +kernel)) ggX1_step_X1_shares
set_option maxRecDepth 20000 in
theorem ggX1_step_X1_times : GoodIn wsX1_step wsX1_times := goodIn_r _ [30, 31, 79, 80, 81, 82, 83, 84, 85, 86, 87, 88, 89, 90, 91, 92, 93, 94] (by decide +kernel) (by decide +kernel)
set_option maxRecDepth 20000 in
theorem gX1_step_X1_times : GoodIn wsX1_step (wsV RX1 65 RX1 yX1_times wsX1_times) := goodIn_app (goodIn_of _ (by decide +kernel)) ggX1_step_X1_times
theorem dX1_step_0 : decode cX1_step 0 = .ok (.aload_n 0, 1) := by decide +kernel
theorem dX1_step_1 : decode cX1_step 1 = .ok (.iload_n 1, 1) := by decide +kernel
theorem dX1_step_2 : decode cX1_step 2 = .ok (.iconst 1, 1) := by decide +kernel
theorem dX1_step_3 : decode cX1_step 3 = .ok (.bipush 50, 2) := by decide +kernel
theorem dX1_step_5 : decode cX1_step 5 = .ok (.invokestatic 45, 3) := by decide +kernel
theorem dX1_step_8 : decode cX1_step 8 = .ok (.ifCond .eq 7, 3) := by decide +kernel
theorem dX1_step_11 : decode cX1_step 11 = .ok (.iconst 0, 1) := by decide +kernel
theorem dX1_step_12 : decode cX1_step 12 = .ok (.goto 4, 3) := by decide +kernel
theorem dX1_step_15 : decode cX1_step 15 = .ok (.iconst 1, 1) := by decide +kernel
theorem dX1_step_16 : decode cX1_step 16 = .ok (.putfield 42, 3) := by decide +kernel
theorem dX1_step_19 : decode cX1_step 19 = .ok (.iconst 0, 1) := by decide +kernel
theorem dX1_step_20 : decode cX1_step 20 = .ok (.istore_n 2, 1) := by decide +kernel
theorem dX1_step_21 : decode cX1_step 21 = .ok (.iconst 0, 1) := by decide +kernel
theorem dX1_step_22 : decode cX1_step 22 = .ok (.istore_n 3, 1) := by decide +kernel
theorem dX1_step_23 : decode cX1_step 23 = .ok (.iload_n 3, 1) := by decide +kernel
theorem dX1_step_24 : decode cX1_step 24 = .ok (.iload_n 1, 1) := by decide +kernel
theorem dX1_step_25 : decode cX1_step 25 = .ok (.if_icmp .ge 115, 3) := by decide +kernel
theorem dX1_step_28 : decode cX1_step 28 = .ok (.aload_n 0, 1) := by decide +kernel
theorem dX1_step_29 : decode cX1_step 29 = .ok (.getfield 42, 3) := by decide +kernel
theorem dX1_step_32 : decode cX1_step 32 = .ok (.ifCond .ne 108, 3) := by decide +kernel
theorem dX1_step_35 : decode cX1_step 35 = .ok (.aload_n 0, 1) := by decide +kernel
theorem dX1_step_36 : decode cX1_step 36 = .ok (.invokevirtual 110, 3) := by decide +kernel
theorem dX1_step_39 : decode cX1_step 39 = .ok (.iconst 0, 1) := by decide +kernel
theorem dX1_step_40 : decode cX1_step 40 = .ok (.istore 4, 2) := by decide +kernel
theorem dX1_step_42 : decode cX1_step 42 = .ok (.iload 4, 2) := by decide +kernel
theorem dX1_step_44 : decode cX1_step 44 = .ok (.aload_n 0, 1) := by decide +kernel
theorem dX1_step_45 : decode cX1_step 45 = .ok (.getfield 49, 3) := by decide +kernel
theorem dX1_step_48 : decode cX1_step 48 = .ok (.if_icmp .ge 76, 3) := by decide +kernel
theorem dX1_step_51 : decode cX1_step 51 = .ok (.aload_n 0, 1) := by decide +kernel
theorem dX1_step_52 : decode cX1_step 52 = .ok (.getfield 36, 3) := by decide +kernel
theorem dX1_step_55 : decode cX1_step 55 = .ok (.iload 4, 2) := by decide +kernel
theorem dX1_step_57 : decode cX1_step 57 = .ok (.iaload, 1) := by decide +kernel
theorem dX1_step_58 : decode cX1_step 58 = .ok (.aload_n 0, 1) := by decide +kernel
theorem dX1_step_59 : decode cX1_step 59 = .ok (.iload 4, 2) := by decide +kernel
theorem dX1_step_61 : decode cX1_step 61 = .ok (.invokevirtual 65, 3) := by decide +kernel
theorem dX1_step_64 : decode cX1_step 64 = .ok (.imul, 1) := by decide +kernel
theorem dX1_step_65 : decode cX1_step 65 = .ok (.aload_n 0, 1) := by decide +kernel
theorem dX1_step_66 : decode cX1_step 66 = .ok (.getfield 20, 3) := by decide +kernel
theorem dX1_step_69 : decode cX1_step 69 = .ok (.iload 4, 2) := by decide +kernel
theorem dX1_step_71 : decode cX1_step 71 = .ok (.iaload, 1) := by decide +kernel
theorem dX1_step_72 : decode cX1_step 72 = .ok (.if_icmp .ge 20, 3) := by decide +kernel
theorem dX1_step_75 : decode cX1_step 75 = .ok (.aload_n 0, 1) := by decide +kernel
theorem dX1_step_76 : decode cX1_step 76 = .ok (.getfield 36, 3) := by decide +kernel
theorem dX1_step_79 : decode cX1_step 79 = .ok (.iload 4, 2) := by decide +kernel
theorem dX1_step_81 : decode cX1_step 81 = .ok (.iaload, 1) := by decide +kernel
theorem dX1_step_82 : decode cX1_step 82 = .ok (.aload_n 0, 1) := by decide +kernel
theorem dX1_step_83 : decode cX1_step 83 = .ok (.iload 4, 2) := by decide +kernel
theorem dX1_step_85 : decode cX1_step 85 = .ok (.invokevirtual 65, 3) := by decide +kernel
theorem dX1_step_88 : decode cX1_step 88 = .ok (.imul, 1) := by decide +kernel
theorem dX1_step_89 : decode cX1_step 89 = .ok (.goto 10, 3) := by decide +kernel
theorem dX1_step_92 : decode cX1_step 92 = .ok (.aload_n 0, 1) := by decide +kernel
theorem dX1_step_93 : decode cX1_step 93 = .ok (.getfield 20, 3) := by decide +kernel
theorem dX1_step_96 : decode cX1_step 96 = .ok (.iload 4, 2) := by decide +kernel
theorem dX1_step_98 : decode cX1_step 98 = .ok (.iaload, 1) := by decide +kernel
theorem dX1_step_99 : decode cX1_step 99 = .ok (.istore 5, 2) := by decide +kernel
theorem dX1_step_101 : decode cX1_step 101 = .ok (.iload_n 2, 1) := by decide +kernel
theorem dX1_step_102 : decode cX1_step 102 = .ok (.iload 5, 2) := by decide +kernel
theorem dX1_step_104 : decode cX1_step 104 = .ok (.iadd, 1) := by decide +kernel
theorem dX1_step_105 : decode cX1_step 105 = .ok (.istore_n 2, 1) := by decide +kernel
theorem dX1_step_106 : decode cX1_step 106 = .ok (.aload_n 0, 1) := by decide +kernel
theorem dX1_step_107 : decode cX1_step 107 = .ok (.getfield 20, 3) := by decide +kernel
theorem dX1_step_110 : decode cX1_step 110 = .ok (.iload 4, 2) := by decide +kernel
theorem dX1_step_112 : decode cX1_step 112 = .ok (.dup2, 1) := by decide +kernel
theorem dX1_step_113 : decode cX1_step 113 = .ok (.iaload, 1) := by decide +kernel
theorem dX1_step_114 : decode cX1_step 114 = .ok (.iload 5, 2) := by decide +kernel
theorem dX1_step_116 : decode cX1_step 116 = .ok (.isub, 1) := by decide +kernel
theorem dX1_step_117 : decode cX1_step 117 = .ok (.iastore, 1) := by decide +kernel
theorem dX1_step_118 : decode cX1_step 118 = .ok (.iinc 4 1, 3) := by decide +kernel
theorem dX1_step_121 : decode cX1_step 121 = .ok (.goto (-79), 3) := by decide +kernel
theorem dX1_step_124 : decode cX1_step 124 = .ok (.aload_n 0, 1) := by decide +kernel
theorem dX1_step_125 : decode cX1_step 125 = .ok (.dup, 1) := by decide +kernel
theorem dX1_step_126 : decode cX1_step 126 = .ok (.getfield 55, 3) := by decide +kernel
theorem dX1_step_129 : decode cX1_step 129 = .ok (.iconst 1, 1) := by decide +kernel
theorem dX1_step_130 : decode cX1_step 130 = .ok (.iadd, 1) := by decide +kernel
theorem dX1_step_131 : decode cX1_step 131 = .ok (.putfield 55, 3) := by decide +kernel
theorem dX1_step_134 : decode cX1_step 134 = .ok (.iinc 3 1, 3) := by decide +kernel
theorem dX1_step_137 : decode cX1_step 137 = .ok (.goto (-114), 3) := by decide +kernel
theorem dX1_step_140 : decode cX1_step 140 = .ok (.aload_n 0, 1) := by decide +kernel
theorem dX1_step_141 : decode cX1_step 141 = .ok (.dup, 1) := by decide +kernel
theorem dX1_step_142 : decode cX1_step 142 = .ok (.getfield 113, 3) := by decide +kernel
theorem dX1_step_145 : decode cX1_step 145 = .ok (.iload_n 2, 1) := by decide +kernel
theorem dX1_step_146 : decode cX1_step 146 = .ok (.iadd, 1) := by decide +kernel
theorem dX1_step_147 : decode cX1_step 147 = .ok (.putfield 113, 3) := by decide +kernel
theorem dX1_step_150 : decode cX1_step 150 = .ok (.iload_n 2, 1) := by decide +kernel
theorem dX1_step_151 : decode cX1_step 151 = .ok (.ireturn, 1) := by decide +kernel
theorem dX1_time_0 : decode cX1_time 0 = .ok (.aload_n 0, 1) := by decide +kernel
theorem dX1_time_1 : decode cX1_time 1 = .ok (.iconst 0, 1) := by decide +kernel
theorem dX1_time_2 : decode cX1_time 2 = .ok (.putfield 42, 3) := by decide +kernel
theorem dX1_time_5 : decode cX1_time 5 = .ok (.aload_n 0, 1) := by decide +kernel
theorem dX1_time_6 : decode cX1_time 6 = .ok (.getfield 55, 3) := by decide +kernel
theorem dX1_time_9 : decode cX1_time 9 = .ok (.ireturn, 1) := by decide +kernel
theorem dX1_points_0 : decode cX1_points 0 = .ok (.aload_n 0, 1) := by decide +kernel
theorem dX1_points_1 : decode cX1_points 1 = .ok (.iconst 0, 1) := by decide +kernel
theorem dX1_points_2 : decode cX1_points 2 = .ok (.putfield 42, 3) := by decide +kernel
theorem dX1_points_5 : decode cX1_points 5 = .ok (.aload_n 0, 1) := by decide +kernel
theorem dX1_points_6 : decode cX1_points 6 = .ok (.getfield 49, 3) := by decide +kernel
theorem dX1_points_9 : decode cX1_points 9 = .ok (.ireturn, 1) := by decide +kernel
theorem dX1_taken_0 : decode cX1_taken 0 = .ok (.aload_n 0, 1) := by decide +kernel
theorem dX1_taken_1 : decode cX1_taken 1 = .ok (.iconst 0, 1) := by decide +kernel
theorem dX1_taken_2 : decode cX1_taken 2 = .ok (.putfield 42, 3) := by decide +kernel
theorem dX1_taken_5 : decode cX1_taken 5 = .ok (.aload_n 0, 1) := by decide +kernel
theorem dX1_taken_6 : decode cX1_taken 6 = .ok (.getfield 113, 3) := by decide +kernel
theorem dX1_taken_9 : decode cX1_taken 9 = .ok (.ireturn, 1) := by decide +kernel
theorem dX1_served_0 : decode cX1_served 0 = .ok (.aload_n 0, 1) := by decide +kernel
theorem dX1_served_1 : decode cX1_served 1 = .ok (.iconst 0, 1) := by decide +kernel
theorem dX1_served_2 : decode cX1_served 2 = .ok (.putfield 42, 3) := by decide +kernel
theorem dX1_served_5 : decode cX1_served 5 = .ok (.aload_n 0, 1) := by decide +kernel
theorem dX1_served_6 : decode cX1_served 6 = .ok (.getfield 79, 3) := by decide +kernel
theorem dX1_served_9 : decode cX1_served 9 = .ok (.ireturn, 1) := by decide +kernel
set_option maxRecDepth 20000 in
theorem ggX1_need_X1_isPoint : GoodIn wsX1_need wsX1_isPoint := goodIn_r _ [7, 8, 9, 10, 11, 6, 12, 13, 14, 15, 16, 17, 18, 19, 20, 21, 22, 23, 24, 25, 26, 27, 28] (by decide +kernel) (by decide +kernel)
set_option maxRecDepth 20000 in
theorem gX1_need_X1_isPoint : GoodIn wsX1_need (wsV RX1 72 RX1 yX1_isPoint wsX1_isPoint) := goodIn_app (goodIn_of _ (by decide +kernel)) ggX1_need_X1_isPoint
theorem dX1_need_0 : decode cX1_need 0 = .ok (.aload_n 0, 1) := by decide +kernel
theorem dX1_need_1 : decode cX1_need 1 = .ok (.iload_n 1, 1) := by decide +kernel
theorem dX1_need_2 : decode cX1_need 2 = .ok (.invokevirtual 72, 3) := by decide +kernel
theorem dX1_need_5 : decode cX1_need 5 = .ok (.ifCond .ne 7, 3) := by decide +kernel
theorem dX1_need_8 : decode cX1_need 8 = .ok (.iconst 0, 1) := by decide +kernel
theorem dX1_need_9 : decode cX1_need 9 = .ok (.goto 22, 3) := by decide +kernel
theorem dX1_need_12 : decode cX1_need 12 = .ok (.aload_n 0, 1) := by decide +kernel
theorem dX1_need_13 : decode cX1_need 13 = .ok (.getfield 16, 3) := by decide +kernel
theorem dX1_need_16 : decode cX1_need 16 = .ok (.iload_n 1, 1) := by decide +kernel
theorem dX1_need_17 : decode cX1_need 17 = .ok (.baload, 1) := by decide +kernel
theorem dX1_need_18 : decode cX1_need 18 = .ok (.ifCond .eq 12, 3) := by decide +kernel
theorem dX1_need_21 : decode cX1_need 21 = .ok (.aload_n 0, 1) := by decide +kernel
theorem dX1_need_22 : decode cX1_need 22 = .ok (.getfield 20, 3) := by decide +kernel
theorem dX1_need_25 : decode cX1_need 25 = .ok (.iload_n 1, 1) := by decide +kernel
theorem dX1_need_26 : decode cX1_need 26 = .ok (.iaload, 1) := by decide +kernel
theorem dX1_need_27 : decode cX1_need 27 = .ok (.goto 4, 3) := by decide +kernel
theorem dX1_need_30 : decode cX1_need 30 = .ok (.iconst (-1), 1) := by decide +kernel
theorem dX1_need_31 : decode cX1_need 31 = .ok (.ireturn, 1) := by decide +kernel
set_option maxRecDepth 20000 in
theorem ggX1_left_X1_isPoint : GoodIn wsX1_left wsX1_isPoint := goodIn_r _ [6, 7, 8, 9, 10, 5, 11, 18, 19, 20, 21, 22, 23, 24, 25, 26, 27, 28, 29, 30, 31, 32, 33] (by decide +kernel) (by decide +kernel)
set_option maxRecDepth 20000 in
theorem gX1_left_X1_isPoint : GoodIn wsX1_left (wsV RX1 72 RX1 yX1_isPoint wsX1_isPoint) := goodIn_app (goodIn_of _ (by decide +kernel)) ggX1_left_X1_isPoint
set_option maxRecDepth 20000 in
theorem ggX1_left_X1_stepsLeft : GoodIn wsX1_left wsX1_stepsLeft := goodIn_r _ [15, 16, 17, 18, 19, 20, 21, 22, 23, 24, 25, 26, 27, 28, 29, 30, 31, 32, 33] (by decide +kernel) (by decide +kernel)
set_option maxRecDepth 20000 in
theorem gX1_left_X1_stepsLeft : GoodIn wsX1_left (wsV RX1 58 RX1 yX1_stepsLeft wsX1_stepsLeft) := goodIn_app (goodIn_of _ (by decide +kernel)) ggX1_left_X1_stepsLeft
theorem dX1_left_0 : decode cX1_left 0 = .ok (.aload_n 0, 1) := by decide +kernel
theorem dX1_left_1 : decode cX1_left 1 = .ok (.iload_n 1, 1) := by decide +kernel
theorem dX1_left_2 : decode cX1_left 2 = .ok (.invokevirtual 72, 3) := by decide +kernel
theorem dX1_left_5 : decode cX1_left 5 = .ok (.ifCond .ne 7, 3) := by decide +kernel
theorem dX1_left_8 : decode cX1_left 8 = .ok (.iconst 0, 1) := by decide +kernel
theorem dX1_left_9 : decode cX1_left 9 = .ok (.goto 21, 3) := by decide +kernel
theorem dX1_left_12 : decode cX1_left 12 = .ok (.aload_n 0, 1) := by decide +kernel
theorem dX1_left_13 : decode cX1_left 13 = .ok (.getfield 16, 3) := by decide +kernel
theorem dX1_left_16 : decode cX1_left 16 = .ok (.iload_n 1, 1) := by decide +kernel
theorem dX1_left_17 : decode cX1_left 17 = .ok (.baload, 1) := by decide +kernel
theorem dX1_left_18 : decode cX1_left 18 = .ok (.ifCond .eq 11, 3) := by decide +kernel
theorem dX1_left_21 : decode cX1_left 21 = .ok (.aload_n 0, 1) := by decide +kernel
theorem dX1_left_22 : decode cX1_left 22 = .ok (.iload_n 1, 1) := by decide +kernel
theorem dX1_left_23 : decode cX1_left 23 = .ok (.invokevirtual 58, 3) := by decide +kernel
theorem dX1_left_26 : decode cX1_left 26 = .ok (.goto 4, 3) := by decide +kernel
theorem dX1_left_29 : decode cX1_left 29 = .ok (.iconst (-1), 1) := by decide +kernel
theorem dX1_left_30 : decode cX1_left 30 = .ok (.ireturn, 1) := by decide +kernel
set_option maxRecDepth 20000 in
theorem ggX1_laxity_X1_isPoint : GoodIn wsX1_laxity wsX1_isPoint := goodIn_r _ [7, 8, 2, 9, 10, 6, 11, 37, 38, 39, 40, 41, 42, 43, 44, 45, 46, 47, 48, 49, 50, 51, 52] (by decide +kernel) (by decide +kernel)
set_option maxRecDepth 20000 in
theorem gX1_laxity_X1_isPoint : GoodIn wsX1_laxity (wsV RX1 72 RX1 yX1_isPoint wsX1_isPoint) := goodIn_app (goodIn_of _ (by decide +kernel)) ggX1_laxity_X1_isPoint
set_option maxRecDepth 20000 in
theorem ggX1_laxity_X1_lax : GoodIn wsX1_laxity wsX1_lax := goodIn_r _ [15, 16, 17, 18, 19, 6, 20, 21, 22, 23, 24, 25, 26, 27, 28, 29, 30, 31, 32, 33, 34, 35, 36, 37, 38, 39, 40, 41, 42, 43, 44, 45, 46, 47, 48, 49, 50, 51, 52] (by decide +kernel) (by decide +kernel)
set_option maxRecDepth 20000 in
theorem gX1_laxity_X1_lax : GoodIn wsX1_laxity (wsV RX1 76 RX1 yX1_lax wsX1_lax) := goodIn_app (goodIn_of _ (by decide +kernel)) ggX1_laxity_X1_lax
theorem dX1_laxity_0 : decode cX1_laxity 0 = .ok (.aload_n 0, 1) := by decide +kernel
theorem dX1_laxity_1 : decode cX1_laxity 1 = .ok (.iload_n 1, 1) := by decide +kernel
theorem dX1_laxity_2 : decode cX1_laxity 2 = .ok (.invokevirtual 72, 3) := by decide +kernel
theorem dX1_laxity_5 : decode cX1_laxity 5 = .ok (.ifCond .ne 5, 3) := by decide +kernel
theorem dX1_laxity_8 : decode cX1_laxity 8 = .ok (.iconst 0, 1) := by decide +kernel
theorem dX1_laxity_9 : decode cX1_laxity 9 = .ok (.ireturn, 1) := by decide +kernel
theorem dX1_laxity_10 : decode cX1_laxity 10 = .ok (.aload_n 0, 1) := by decide +kernel
theorem dX1_laxity_11 : decode cX1_laxity 11 = .ok (.aload_n 0, 1) := by decide +kernel
theorem dX1_laxity_12 : decode cX1_laxity 12 = .ok (.getfield 16, 3) := by decide +kernel
theorem dX1_laxity_15 : decode cX1_laxity 15 = .ok (.iload_n 1, 1) := by decide +kernel
theorem dX1_laxity_16 : decode cX1_laxity 16 = .ok (.baload, 1) := by decide +kernel
theorem dX1_laxity_17 : decode cX1_laxity 17 = .ok (.ifCond .eq 7, 3) := by decide +kernel
theorem dX1_laxity_20 : decode cX1_laxity 20 = .ok (.iconst 0, 1) := by decide +kernel
theorem dX1_laxity_21 : decode cX1_laxity 21 = .ok (.goto 4, 3) := by decide +kernel
theorem dX1_laxity_24 : decode cX1_laxity 24 = .ok (.iconst 2, 1) := by decide +kernel
theorem dX1_laxity_25 : decode cX1_laxity 25 = .ok (.putfield 42, 3) := by decide +kernel
theorem dX1_laxity_28 : decode cX1_laxity 28 = .ok (.aload_n 0, 1) := by decide +kernel
theorem dX1_laxity_29 : decode cX1_laxity 29 = .ok (.getfield 42, 3) := by decide +kernel
theorem dX1_laxity_32 : decode cX1_laxity 32 = .ok (.ifCond .le 7, 3) := by decide +kernel
theorem dX1_laxity_35 : decode cX1_laxity 35 = .ok (.iconst 0, 1) := by decide +kernel
theorem dX1_laxity_36 : decode cX1_laxity 36 = .ok (.goto 8, 3) := by decide +kernel
theorem dX1_laxity_39 : decode cX1_laxity 39 = .ok (.aload_n 0, 1) := by decide +kernel
theorem dX1_laxity_40 : decode cX1_laxity 40 = .ok (.iload_n 1, 1) := by decide +kernel
theorem dX1_laxity_41 : decode cX1_laxity 41 = .ok (.invokevirtual 76, 3) := by decide +kernel
theorem dX1_laxity_44 : decode cX1_laxity 44 = .ok (.ireturn, 1) := by decide +kernel
set_option maxRecDepth 20000 in
theorem ggX1_reach_X1_isPoint : GoodIn wsX1_reach wsX1_isPoint := goodIn_r _ [5, 6, 7, 8, 9, 4, 10, 37, 38, 39, 40, 41, 42, 43, 44, 45, 46, 47, 48, 49, 50, 51, 52] (by decide +kernel) (by decide +kernel)
set_option maxRecDepth 20000 in
theorem gX1_reach_X1_isPoint : GoodIn wsX1_reach (wsV RX1 72 RX1 yX1_isPoint wsX1_isPoint) := goodIn_app (goodIn_of _ (by decide +kernel)) ggX1_reach_X1_isPoint
set_option maxRecDepth 20000 in
theorem ggX1_reach_X1_reaches : GoodIn wsX1_reach wsX1_reaches := goodIn_r _ [14, 15, 16, 17, 18, 19, 4, 20, 21, 22, 23, 24, 25, 26, 27, 28, 29, 30, 31, 32, 33, 34, 35, 36, 37, 38, 39, 40, 41, 42, 43, 44, 45, 46, 47, 48, 49, 50, 51, 52] (by decide +kernel) (by decide +kernel)
set_option maxRecDepth 20000 in
theorem gX1_reach_X1_reaches : GoodIn wsX1_reach (wsV RX1 85 RX1 yX1_reaches wsX1_reaches) := goodIn_app (goodIn_of _ (by decide +kernel)) ggX1_reach_X1_reaches
theorem dX1_reach_0 : decode cX1_reach 0 = .ok (.aload_n 0, 1) := by decide +kernel
theorem dX1_reach_1 : decode cX1_reach 1 = .ok (.iload_n 1, 1) := by decide +kernel
theorem dX1_reach_2 : decode cX1_reach 2 = .ok (.invokevirtual 72, 3) := by decide +kernel
theorem dX1_reach_5 : decode cX1_reach 5 = .ok (.ifCond .eq 11, 3) := by decide +kernel
theorem dX1_reach_8 : decode cX1_reach 8 = .ok (.aload_n 0, 1) := by decide +kernel
theorem dX1_reach_9 : decode cX1_reach 9 = .ok (.iload_n 1, 1) := by decide +kernel
theorem dX1_reach_10 : decode cX1_reach 10 = .ok (.invokevirtual 85, 3) := by decide +kernel
theorem dX1_reach_13 : decode cX1_reach 13 = .ok (.goto 4, 3) := by decide +kernel
theorem dX1_reach_16 : decode cX1_reach 16 = .ok (.iconst 0, 1) := by decide +kernel
theorem dX1_reach_17 : decode cX1_reach 17 = .ok (.ireturn, 1) := by decide +kernel
set_option maxRecDepth 20000 in
theorem ggX1_current_X1_isPoint : GoodIn wsX1_current wsX1_isPoint := goodIn_r _ [6, 7, 8, 9, 10, 5, 11, 82, 83, 84, 85, 86, 87, 88, 89, 90, 91, 92, 93, 94, 95, 96, 97] (by decide +kernel) (by decide +kernel)
set_option maxRecDepth 20000 in
theorem gX1_current_X1_isPoint : GoodIn wsX1_current (wsV RX1 72 RX1 yX1_isPoint wsX1_isPoint) := goodIn_app (goodIn_of _ (by decide +kernel)) ggX1_current_X1_isPoint
set_option maxRecDepth 20000 in
theorem ggX1_current_X1_shares : GoodIn wsX1_current wsX1_shares := goodIn_r _ [15, 1, 16, 17, 18, 19, 20, 21, 5, 22, 7, 23, 24, 25, 26, 27, 28, 29, 30, 31, 32, 33, 34, 35, 36, 37, 38, 39, 40, 41, 42, 43, 44, 45, 46, 47, 48, 49, 50, 51, 52, 53, 54, 55, 56, 57, 58, 59, 60, 61, 62, 63, 64, 65, 66, 67, 68, 69, 70, 71, 72, 73, 74, 75, 76, 77, 78, 79, 80, 81, 82, 83, 84, 85, 86, 87, 88, 89, 90, 91, 92, 93, 94, 95, 96, 97] (by decide +kernel) (by decide +kernel)
set_option maxRecDepth 20000 in
theorem gX1_current_X1_shares : GoodIn wsX1_current (wsV RX1 110 RX1 yX1_shares wsX1_shares) := goodIn_app (goodIn_of _ (by decide +kernel)) ggX1_current_X1_shares
theorem dX1_current_0 : decode cX1_current 0 = .ok (.aload_n 0, 1) := by decide +kernel
theorem dX1_current_1 : decode cX1_current 1 = .ok (.iload_n 1, 1) := by decide +kernel
theorem dX1_current_2 : decode cX1_current 2 = .ok (.invokevirtual 72, 3) := by decide +kernel
theorem dX1_current_5 : decode cX1_current 5 = .ok (.ifCond .ne 5, 3) := by decide +kernel
theorem dX1_current_8 : decode cX1_current 8 = .ok (.iconst 0, 1) := by decide +kernel
theorem dX1_current_9 : decode cX1_current 9 = .ok (.ireturn, 1) := by decide +kernel
theorem dX1_current_10 : decode cX1_current 10 = .ok (.aload_n 0, 1) := by decide +kernel
theorem dX1_current_11 : decode cX1_current 11 = .ok (.invokevirtual 110, 3) := by decide +kernel
theorem dX1_current_14 : decode cX1_current 14 = .ok (.aload_n 0, 1) := by decide +kernel
theorem dX1_current_15 : decode cX1_current 15 = .ok (.getfield 36, 3) := by decide +kernel
theorem dX1_current_18 : decode cX1_current 18 = .ok (.iload_n 1, 1) := by decide +kernel
theorem dX1_current_19 : decode cX1_current 19 = .ok (.iaload, 1) := by decide +kernel
theorem dX1_current_20 : decode cX1_current 20 = .ok (.ireturn, 1) := by decide +kernel
set_option maxRecDepth 20000 in
theorem ggX1_load_X1_isIn : GoodIn wsX1_load wsX1_isIn := goodIn_r _ [5] (by decide +kernel) (by decide +kernel)
set_option maxRecDepth 20000 in
theorem gX1_load_X1_isIn : GoodIn wsX1_load (va_wsS RX1 45 yX1_isIn wsX1_isIn) := goodIn_app (goodIn_of _ (by decide +kernel)) ggX1_load_X1_isIn
set_option maxRecDepth 20000 in
theorem ggX1_load_X1_shares : GoodIn wsX1_load wsX1_shares := goodIn_r _ [9, 10, 11, 12, 13, 14, 15, 16, 4, 17, 18, 19, 20, 21, 22, 23, 24, 25, 26, 27, 28, 29, 30, 31, 32, 33, 34, 35, 36, 37, 38, 39, 40, 41, 42, 43, 44, 45, 46, 47, 48, 49, 50, 51, 52, 53, 54, 55, 56, 57, 58, 59, 60, 61, 62, 63, 64, 65, 66, 67, 68, 69, 70, 71, 72, 73, 74, 75, 76, 77, 78, 79, 80, 81, 82, 83, 84, 85, 86, 87, 88, 89, 90, 91, 92, 93] (by decide +kernel) (by decide +kernel)
set_option maxRecDepth 20000 in
theorem gX1_load_X1_shares : GoodIn wsX1_load (wsV RX1 110 RX1 yX1_shares wsX1_shares) := goodIn_app (goodIn_of _ (by decide +kernel)) ggX1_load_X1_shares
set_option maxRecDepth 20000 in
theorem ggX1_load_X1_flows : GoodIn wsX1_load wsX1_flows := goodIn_r _ [61, 18, 29, 10, 78, 79, 80, 81, 82, 83, 84, 85, 86, 87, 88, 89, 90, 91, 92, 93] (by decide +kernel) (by decide +kernel)
set_option maxRecDepth 20000 in
theorem gX1_load_X1_flows : GoodIn wsX1_load (wsV RX1 82 RX1 yX1_flows wsX1_flows) := goodIn_app (goodIn_of _ (by decide +kernel)) ggX1_load_X1_flows
theorem dX1_load_0 : decode cX1_load 0 = .ok (.aload_n 0, 1) := by decide +kernel
theorem dX1_load_1 : decode cX1_load 1 = .ok (.iload_n 1, 1) := by decide +kernel
theorem dX1_load_2 : decode cX1_load 2 = .ok (.iconst 0, 1) := by decide +kernel
theorem dX1_load_3 : decode cX1_load 3 = .ok (.iconst 2, 1) := by decide +kernel
theorem dX1_load_4 : decode cX1_load 4 = .ok (.invokestatic 45, 3) := by decide +kernel
theorem dX1_load_7 : decode cX1_load 7 = .ok (.ifCond .eq 7, 3) := by decide +kernel
theorem dX1_load_10 : decode cX1_load 10 = .ok (.iconst 0, 1) := by decide +kernel
theorem dX1_load_11 : decode cX1_load 11 = .ok (.goto 4, 3) := by decide +kernel
theorem dX1_load_14 : decode cX1_load 14 = .ok (.iconst 1, 1) := by decide +kernel
theorem dX1_load_15 : decode cX1_load 15 = .ok (.putfield 42, 3) := by decide +kernel
theorem dX1_load_18 : decode cX1_load 18 = .ok (.aload_n 0, 1) := by decide +kernel
theorem dX1_load_19 : decode cX1_load 19 = .ok (.getfield 42, 3) := by decide +kernel
theorem dX1_load_22 : decode cX1_load 22 = .ok (.ifCond .le 5, 3) := by decide +kernel
theorem dX1_load_25 : decode cX1_load 25 = .ok (.iconst 0, 1) := by decide +kernel
theorem dX1_load_26 : decode cX1_load 26 = .ok (.ireturn, 1) := by decide +kernel
theorem dX1_load_27 : decode cX1_load 27 = .ok (.aload_n 0, 1) := by decide +kernel
theorem dX1_load_28 : decode cX1_load 28 = .ok (.invokevirtual 110, 3) := by decide +kernel
theorem dX1_load_31 : decode cX1_load 31 = .ok (.aload_n 0, 1) := by decide +kernel
theorem dX1_load_32 : decode cX1_load 32 = .ok (.iload_n 1, 1) := by decide +kernel
theorem dX1_load_33 : decode cX1_load 33 = .ok (.invokevirtual 82, 3) := by decide +kernel
theorem dX1_load_36 : decode cX1_load 36 = .ok (.ireturn, 1) := by decide +kernel
set_option maxRecDepth 20000 in
theorem ggX1_imbalance_X1_shares : GoodIn wsX1_imbalance wsX1_shares := goodIn_r _ [6, 7, 8, 9, 10, 11, 12, 13, 5, 14, 15, 16, 17, 18, 19, 20, 21, 22, 23, 24, 25, 26, 27, 28, 29, 30, 31, 32, 33, 34, 35, 36, 37, 38, 39, 40, 41, 42, 43, 44, 45, 46, 47, 48, 49, 50, 51, 52, 53, 54, 55, 56, 57, 58, 59, 60, 61, 62, 63, 64, 65, 66, 67, 68, 69, 70, 71, 72, 73, 74, 75, 76, 77, 78, 79, 80, 81, 82, 83, 84, 85, 86, 87, 88, 89, 90] (by decide +kernel) (by decide +kernel)
set_option maxRecDepth 20000 in
theorem gX1_imbalance_X1_shares : GoodIn wsX1_imbalance (wsV RX1 110 RX1 yX1_shares wsX1_shares) := goodIn_app (goodIn_of _ (by decide +kernel)) ggX1_imbalance_X1_shares
set_option maxRecDepth 20000 in
theorem ggX1_imbalance_X1_apart : GoodIn wsX1_imbalance wsX1_apart := goodIn_r _ [66, 55, 56, 57, 5, 58, 15, 26, 7, 67, 68, 69, 70, 75, 76, 77, 78, 79, 80, 81, 82, 83, 84, 85, 86, 87, 88, 89, 90] (by decide +kernel) (by decide +kernel)
set_option maxRecDepth 20000 in
theorem gX1_imbalance_X1_apart : GoodIn wsX1_imbalance (wsV RX1 104 RX1 yX1_apart wsX1_apart) := goodIn_app (goodIn_of _ (by decide +kernel)) ggX1_imbalance_X1_apart
theorem dX1_imbalance_0 : decode cX1_imbalance 0 = .ok (.aload_n 0, 1) := by decide +kernel
theorem dX1_imbalance_1 : decode cX1_imbalance 1 = .ok (.iconst 0, 1) := by decide +kernel
theorem dX1_imbalance_2 : decode cX1_imbalance 2 = .ok (.putfield 42, 3) := by decide +kernel
theorem dX1_imbalance_5 : decode cX1_imbalance 5 = .ok (.aload_n 0, 1) := by decide +kernel
theorem dX1_imbalance_6 : decode cX1_imbalance 6 = .ok (.invokevirtual 110, 3) := by decide +kernel
theorem dX1_imbalance_9 : decode cX1_imbalance 9 = .ok (.aload_n 0, 1) := by decide +kernel
theorem dX1_imbalance_10 : decode cX1_imbalance 10 = .ok (.invokevirtual 104, 3) := by decide +kernel
theorem dX1_imbalance_13 : decode cX1_imbalance 13 = .ok (.ireturn, 1) := by decide +kernel
set_option maxRecDepth 20000 in
theorem ggX1_held_X1_shares : GoodIn wsX1_held wsX1_shares := goodIn_r _ [8, 3, 9, 10, 11, 12, 13, 14, 7, 15, 2, 16, 17, 18, 19, 20, 21, 22, 23, 24, 25, 26, 27, 28, 29, 30, 31, 32, 33, 34, 35, 36, 37, 38, 39, 40, 41, 42, 43, 44, 45, 46, 47, 48, 49, 50, 51, 52, 53, 54, 55, 56, 57, 58, 59, 60, 61, 62, 63, 64, 65, 66, 67, 68, 69, 70, 71, 72, 73, 74, 75, 76, 77, 78, 79, 80, 81, 82, 83, 84, 85, 86, 87, 88, 89, 90] (by decide +kernel) (by decide +kernel)
set_option maxRecDepth 20000 in
theorem gX1_held_X1_shares : GoodIn wsX1_held (wsV RX1 110 RX1 yX1_shares wsX1_shares) := goodIn_app (goodIn_of _ (by decide +kernel)) ggX1_held_X1_shares
set_option maxRecDepth 20000 in
theorem ggX1_held_X1_reaches : GoodIn wsX1_held wsX1_reaches := goodIn_r _ [19, 20, 21, 22, 23, 24, 7, 25, 26, 27, 28, 29, 30, 31, 32, 33, 34, 35, 36, 37, 38, 39, 40, 41, 75, 76, 77, 78, 79, 80, 81, 82, 83, 84, 85, 86, 87, 88, 89, 90] (by decide +kernel) (by decide +kernel)
set_option maxRecDepth 20000 in
theorem gX1_held_X1_reaches : GoodIn wsX1_held (wsV RX1 85 RX1 yX1_reaches wsX1_reaches) := goodIn_app (goodIn_of _ (by decide +kernel)) ggX1_held_X1_reaches
theorem dX1_held_0 : decode cX1_held 0 = .ok (.aload_n 0, 1) := by decide +kernel
theorem dX1_held_1 : decode cX1_held 1 = .ok (.iconst 0, 1) := by decide +kernel
theorem dX1_held_2 : decode cX1_held 2 = .ok (.putfield 42, 3) := by decide +kernel
theorem dX1_held_5 : decode cX1_held 5 = .ok (.aload_n 0, 1) := by decide +kernel
theorem dX1_held_6 : decode cX1_held 6 = .ok (.invokevirtual 110, 3) := by decide +kernel
theorem dX1_held_9 : decode cX1_held 9 = .ok (.iconst 0, 1) := by decide +kernel
theorem dX1_held_10 : decode cX1_held 10 = .ok (.istore_n 1, 1) := by decide +kernel
theorem dX1_held_11 : decode cX1_held 11 = .ok (.iconst 0, 1) := by decide +kernel
theorem dX1_held_12 : decode cX1_held 12 = .ok (.istore_n 2, 1) := by decide +kernel
theorem dX1_held_13 : decode cX1_held 13 = .ok (.iload_n 2, 1) := by decide +kernel
theorem dX1_held_14 : decode cX1_held 14 = .ok (.aload_n 0, 1) := by decide +kernel
theorem dX1_held_15 : decode cX1_held 15 = .ok (.getfield 49, 3) := by decide +kernel
theorem dX1_held_18 : decode cX1_held 18 = .ok (.if_icmp .ge 33, 3) := by decide +kernel
theorem dX1_held_21 : decode cX1_held 21 = .ok (.iload_n 1, 1) := by decide +kernel
theorem dX1_held_22 : decode cX1_held 22 = .ok (.aload_n 0, 1) := by decide +kernel
theorem dX1_held_23 : decode cX1_held 23 = .ok (.getfield 36, 3) := by decide +kernel
theorem dX1_held_26 : decode cX1_held 26 = .ok (.iload_n 2, 1) := by decide +kernel
theorem dX1_held_27 : decode cX1_held 27 = .ok (.iaload, 1) := by decide +kernel
theorem dX1_held_28 : decode cX1_held 28 = .ok (.aload_n 0, 1) := by decide +kernel
theorem dX1_held_29 : decode cX1_held 29 = .ok (.iload_n 2, 1) := by decide +kernel
theorem dX1_held_30 : decode cX1_held 30 = .ok (.invokevirtual 85, 3) := by decide +kernel
theorem dX1_held_33 : decode cX1_held 33 = .ok (.if_icmp .ge 9, 3) := by decide +kernel
theorem dX1_held_36 : decode cX1_held 36 = .ok (.iconst 1, 1) := by decide +kernel
theorem dX1_held_37 : decode cX1_held 37 = .ok (.iload_n 2, 1) := by decide +kernel
theorem dX1_held_38 : decode cX1_held 38 = .ok (.ishl, 1) := by decide +kernel
theorem dX1_held_39 : decode cX1_held 39 = .ok (.goto 4, 3) := by decide +kernel
theorem dX1_held_42 : decode cX1_held 42 = .ok (.iconst 0, 1) := by decide +kernel
theorem dX1_held_43 : decode cX1_held 43 = .ok (.ior, 1) := by decide +kernel
theorem dX1_held_44 : decode cX1_held 44 = .ok (.istore_n 1, 1) := by decide +kernel
theorem dX1_held_45 : decode cX1_held 45 = .ok (.iinc 2 1, 3) := by decide +kernel
theorem dX1_held_48 : decode cX1_held 48 = .ok (.goto (-35), 3) := by decide +kernel
theorem dX1_held_51 : decode cX1_held 51 = .ok (.iload_n 1, 1) := by decide +kernel
theorem dX1_held_52 : decode cX1_held 52 = .ok (.ireturn, 1) := by decide +kernel
set_option maxRecDepth 20000 in
theorem ggX1_fairLevel_X1_isIn : GoodIn wsX1_fairLevel wsX1_isIn := goodIn_r _ [9] (by decide +kernel) (by decide +kernel)
set_option maxRecDepth 20000 in
theorem gX1_fairLevel_X1_isIn : GoodIn wsX1_fairLevel (va_wsS RX1 45 yX1_isIn wsX1_isIn) := goodIn_app (goodIn_of _ (by decide +kernel)) ggX1_fairLevel_X1_isIn
set_option maxRecDepth 20000 in
theorem ggX1_fairLevel_X1_shares : GoodIn wsX1_fairLevel wsX1_shares := goodIn_r _ [13, 5, 14, 15, 16, 17, 18, 19, 8, 20, 3, 21, 22, 23, 24, 25, 26, 27, 28, 29, 30, 4, 31, 32, 33, 34, 35, 36, 37, 38, 39, 40, 41, 42, 43, 44, 45, 46, 47, 48, 49, 50, 51, 52, 53, 54, 55, 56, 57, 2, 58, 59, 60, 61, 62, 63, 64, 65, 66, 67, 68, 69, 70, 71, 72, 73, 74, 75, 76, 77, 78, 79, 80, 81, 82, 83, 84, 85, 86, 87, 88, 89, 90, 91, 92, 93] (by decide +kernel) (by decide +kernel)
set_option maxRecDepth 20000 in
theorem gX1_fairLevel_X1_shares : GoodIn wsX1_fairLevel (wsV RX1 110 RX1 yX1_shares wsX1_shares) := goodIn_app (goodIn_of _ (by decide +kernel)) ggX1_fairLevel_X1_shares
set_option maxRecDepth 20000 in
theorem ggX1_fairLevel_X1_reaches : GoodIn wsX1_fairLevel wsX1_reaches := goodIn_r _ [24, 25, 26, 27, 28, 29, 8, 30, 4, 31, 32, 33, 34, 35, 36, 37, 38, 39, 40, 41, 42, 43, 44, 45, 78, 79, 80, 81, 82, 83, 84, 85, 86, 87, 88, 89, 90, 91, 92, 93] (by decide +kernel) (by decide +kernel)
set_option maxRecDepth 20000 in
theorem gX1_fairLevel_X1_reaches : GoodIn wsX1_fairLevel (wsV RX1 85 RX1 yX1_reaches wsX1_reaches) := goodIn_app (goodIn_of _ (by decide +kernel)) ggX1_fairLevel_X1_reaches
theorem dX1_fairLevel_0 : decode cX1_fairLevel 0 = .ok (.aload_n 0, 1) := by decide +kernel
theorem dX1_fairLevel_1 : decode cX1_fairLevel 1 = .ok (.iload_n 1, 1) := by decide +kernel
theorem dX1_fairLevel_2 : decode cX1_fairLevel 2 = .ok (.iconst 0, 1) := by decide +kernel
theorem dX1_fairLevel_3 : decode cX1_fairLevel 3 = .ok (.iconst 2, 1) := by decide +kernel
theorem dX1_fairLevel_4 : decode cX1_fairLevel 4 = .ok (.invokestatic 45, 3) := by decide +kernel
theorem dX1_fairLevel_7 : decode cX1_fairLevel 7 = .ok (.ifCond .eq 7, 3) := by decide +kernel
theorem dX1_fairLevel_10 : decode cX1_fairLevel 10 = .ok (.iconst 0, 1) := by decide +kernel
theorem dX1_fairLevel_11 : decode cX1_fairLevel 11 = .ok (.goto 4, 3) := by decide +kernel
theorem dX1_fairLevel_14 : decode cX1_fairLevel 14 = .ok (.iconst 1, 1) := by decide +kernel
theorem dX1_fairLevel_15 : decode cX1_fairLevel 15 = .ok (.putfield 42, 3) := by decide +kernel
theorem dX1_fairLevel_18 : decode cX1_fairLevel 18 = .ok (.aload_n 0, 1) := by decide +kernel
theorem dX1_fairLevel_19 : decode cX1_fairLevel 19 = .ok (.getfield 42, 3) := by decide +kernel
theorem dX1_fairLevel_22 : decode cX1_fairLevel 22 = .ok (.ifCond .le 5, 3) := by decide +kernel
theorem dX1_fairLevel_25 : decode cX1_fairLevel 25 = .ok (.iconst 0, 1) := by decide +kernel
theorem dX1_fairLevel_26 : decode cX1_fairLevel 26 = .ok (.ireturn, 1) := by decide +kernel
theorem dX1_fairLevel_27 : decode cX1_fairLevel 27 = .ok (.aload_n 0, 1) := by decide +kernel
theorem dX1_fairLevel_28 : decode cX1_fairLevel 28 = .ok (.invokevirtual 110, 3) := by decide +kernel
theorem dX1_fairLevel_31 : decode cX1_fairLevel 31 = .ok (.aload_n 0, 1) := by decide +kernel
theorem dX1_fairLevel_32 : decode cX1_fairLevel 32 = .ok (.getfield 29, 3) := by decide +kernel
theorem dX1_fairLevel_35 : decode cX1_fairLevel 35 = .ok (.iload_n 1, 1) := by decide +kernel
theorem dX1_fairLevel_36 : decode cX1_fairLevel 36 = .ok (.iaload, 1) := by decide +kernel
theorem dX1_fairLevel_37 : decode cX1_fairLevel 37 = .ok (.istore_n 2, 1) := by decide +kernel
theorem dX1_fairLevel_38 : decode cX1_fairLevel 38 = .ok (.iconst 0, 1) := by decide +kernel
theorem dX1_fairLevel_39 : decode cX1_fairLevel 39 = .ok (.istore_n 3, 1) := by decide +kernel
theorem dX1_fairLevel_40 : decode cX1_fairLevel 40 = .ok (.iconst 0, 1) := by decide +kernel
theorem dX1_fairLevel_41 : decode cX1_fairLevel 41 = .ok (.istore 4, 2) := by decide +kernel
theorem dX1_fairLevel_43 : decode cX1_fairLevel 43 = .ok (.iconst 0, 1) := by decide +kernel
theorem dX1_fairLevel_44 : decode cX1_fairLevel 44 = .ok (.istore 5, 2) := by decide +kernel
theorem dX1_fairLevel_46 : decode cX1_fairLevel 46 = .ok (.iload 5, 2) := by decide +kernel
theorem dX1_fairLevel_48 : decode cX1_fairLevel 48 = .ok (.aload_n 0, 1) := by decide +kernel
theorem dX1_fairLevel_49 : decode cX1_fairLevel 49 = .ok (.getfield 49, 3) := by decide +kernel
theorem dX1_fairLevel_52 : decode cX1_fairLevel 52 = .ok (.if_icmp .ge 88, 3) := by decide +kernel
theorem dX1_fairLevel_55 : decode cX1_fairLevel 55 = .ok (.iload_n 2, 1) := by decide +kernel
theorem dX1_fairLevel_56 : decode cX1_fairLevel 56 = .ok (.aload_n 0, 1) := by decide +kernel
theorem dX1_fairLevel_57 : decode cX1_fairLevel 57 = .ok (.getfield 7, 3) := by decide +kernel
theorem dX1_fairLevel_60 : decode cX1_fairLevel 60 = .ok (.iload 5, 2) := by decide +kernel
theorem dX1_fairLevel_62 : decode cX1_fairLevel 62 = .ok (.iaload, 1) := by decide +kernel
theorem dX1_fairLevel_63 : decode cX1_fairLevel 63 = .ok (.iconst 3, 1) := by decide +kernel
theorem dX1_fairLevel_64 : decode cX1_fairLevel 64 = .ok (.if_icmp .ne 13, 3) := by decide +kernel
theorem dX1_fairLevel_67 : decode cX1_fairLevel 67 = .ok (.aload_n 0, 1) := by decide +kernel
theorem dX1_fairLevel_68 : decode cX1_fairLevel 68 = .ok (.getfield 36, 3) := by decide +kernel
theorem dX1_fairLevel_71 : decode cX1_fairLevel 71 = .ok (.iload 5, 2) := by decide +kernel
theorem dX1_fairLevel_73 : decode cX1_fairLevel 73 = .ok (.iaload, 1) := by decide +kernel
theorem dX1_fairLevel_74 : decode cX1_fairLevel 74 = .ok (.goto 4, 3) := by decide +kernel
theorem dX1_fairLevel_77 : decode cX1_fairLevel 77 = .ok (.iconst 0, 1) := by decide +kernel
theorem dX1_fairLevel_78 : decode cX1_fairLevel 78 = .ok (.isub, 1) := by decide +kernel
theorem dX1_fairLevel_79 : decode cX1_fairLevel 79 = .ok (.istore_n 2, 1) := by decide +kernel
theorem dX1_fairLevel_80 : decode cX1_fairLevel 80 = .ok (.iload_n 3, 1) := by decide +kernel
theorem dX1_fairLevel_81 : decode cX1_fairLevel 81 = .ok (.aload_n 0, 1) := by decide +kernel
theorem dX1_fairLevel_82 : decode cX1_fairLevel 82 = .ok (.getfield 7, 3) := by decide +kernel
theorem dX1_fairLevel_85 : decode cX1_fairLevel 85 = .ok (.iload 5, 2) := by decide +kernel
theorem dX1_fairLevel_87 : decode cX1_fairLevel 87 = .ok (.iaload, 1) := by decide +kernel
theorem dX1_fairLevel_88 : decode cX1_fairLevel 88 = .ok (.iload_n 1, 1) := by decide +kernel
theorem dX1_fairLevel_89 : decode cX1_fairLevel 89 = .ok (.if_icmp .ne 12, 3) := by decide +kernel
theorem dX1_fairLevel_92 : decode cX1_fairLevel 92 = .ok (.aload_n 0, 1) := by decide +kernel
theorem dX1_fairLevel_93 : decode cX1_fairLevel 93 = .ok (.iload 5, 2) := by decide +kernel
theorem dX1_fairLevel_95 : decode cX1_fairLevel 95 = .ok (.invokevirtual 85, 3) := by decide +kernel
theorem dX1_fairLevel_98 : decode cX1_fairLevel 98 = .ok (.goto 4, 3) := by decide +kernel
theorem dX1_fairLevel_101 : decode cX1_fairLevel 101 = .ok (.iconst 0, 1) := by decide +kernel
theorem dX1_fairLevel_102 : decode cX1_fairLevel 102 = .ok (.iadd, 1) := by decide +kernel
theorem dX1_fairLevel_103 : decode cX1_fairLevel 103 = .ok (.istore_n 3, 1) := by decide +kernel
theorem dX1_fairLevel_104 : decode cX1_fairLevel 104 = .ok (.iload 4, 2) := by decide +kernel
theorem dX1_fairLevel_106 : decode cX1_fairLevel 106 = .ok (.aload_n 0, 1) := by decide +kernel
theorem dX1_fairLevel_107 : decode cX1_fairLevel 107 = .ok (.getfield 7, 3) := by decide +kernel
theorem dX1_fairLevel_110 : decode cX1_fairLevel 110 = .ok (.iload 5, 2) := by decide +kernel
theorem dX1_fairLevel_112 : decode cX1_fairLevel 112 = .ok (.iaload, 1) := by decide +kernel
theorem dX1_fairLevel_113 : decode cX1_fairLevel 113 = .ok (.iload_n 1, 1) := by decide +kernel
theorem dX1_fairLevel_114 : decode cX1_fairLevel 114 = .ok (.if_icmp .ne 16, 3) := by decide +kernel
theorem dX1_fairLevel_117 : decode cX1_fairLevel 117 = .ok (.aload_n 0, 1) := by decide +kernel
theorem dX1_fairLevel_118 : decode cX1_fairLevel 118 = .ok (.iload 5, 2) := by decide +kernel
theorem dX1_fairLevel_120 : decode cX1_fairLevel 120 = .ok (.invokevirtual 85, 3) := by decide +kernel
theorem dX1_fairLevel_123 : decode cX1_fairLevel 123 = .ok (.ifCond .le 7, 3) := by decide +kernel
theorem dX1_fairLevel_126 : decode cX1_fairLevel 126 = .ok (.iconst 1, 1) := by decide +kernel
theorem dX1_fairLevel_127 : decode cX1_fairLevel 127 = .ok (.goto 4, 3) := by decide +kernel
theorem dX1_fairLevel_130 : decode cX1_fairLevel 130 = .ok (.iconst 0, 1) := by decide +kernel
theorem dX1_fairLevel_131 : decode cX1_fairLevel 131 = .ok (.iadd, 1) := by decide +kernel
theorem dX1_fairLevel_132 : decode cX1_fairLevel 132 = .ok (.istore 4, 2) := by decide +kernel
theorem dX1_fairLevel_134 : decode cX1_fairLevel 134 = .ok (.iinc 5 1, 3) := by decide +kernel
theorem dX1_fairLevel_137 : decode cX1_fairLevel 137 = .ok (.goto (-91), 3) := by decide +kernel
theorem dX1_fairLevel_140 : decode cX1_fairLevel 140 = .ok (.iload_n 3, 1) := by decide +kernel
theorem dX1_fairLevel_141 : decode cX1_fairLevel 141 = .ok (.iload_n 2, 1) := by decide +kernel
theorem dX1_fairLevel_142 : decode cX1_fairLevel 142 = .ok (.if_icmp .gt 5, 3) := by decide +kernel
theorem dX1_fairLevel_145 : decode cX1_fairLevel 145 = .ok (.iconst (-1), 1) := by decide +kernel
theorem dX1_fairLevel_146 : decode cX1_fairLevel 146 = .ok (.ireturn, 1) := by decide +kernel
theorem dX1_fairLevel_147 : decode cX1_fairLevel 147 = .ok (.iconst 1, 1) := by decide +kernel
theorem dX1_fairLevel_148 : decode cX1_fairLevel 148 = .ok (.istore 5, 2) := by decide +kernel
theorem dX1_fairLevel_150 : decode cX1_fairLevel 150 = .ok (.iload 5, 2) := by decide +kernel
theorem dX1_fairLevel_152 : decode cX1_fairLevel 152 = .ok (.bipush 32, 2) := by decide +kernel
theorem dX1_fairLevel_154 : decode cX1_fairLevel 154 = .ok (.if_icmp .gt 66, 3) := by decide +kernel
theorem dX1_fairLevel_157 : decode cX1_fairLevel 157 = .ok (.iconst 0, 1) := by decide +kernel
theorem dX1_fairLevel_158 : decode cX1_fairLevel 158 = .ok (.istore 6, 2) := by decide +kernel
theorem dX1_fairLevel_160 : decode cX1_fairLevel 160 = .ok (.iload 6, 2) := by decide +kernel
theorem dX1_fairLevel_162 : decode cX1_fairLevel 162 = .ok (.aload_n 0, 1) := by decide +kernel
theorem dX1_fairLevel_163 : decode cX1_fairLevel 163 = .ok (.getfield 49, 3) := by decide +kernel
theorem dX1_fairLevel_166 : decode cX1_fairLevel 166 = .ok (.if_icmp .ge 48, 3) := by decide +kernel
theorem dX1_fairLevel_169 : decode cX1_fairLevel 169 = .ok (.aload_n 0, 1) := by decide +kernel
theorem dX1_fairLevel_170 : decode cX1_fairLevel 170 = .ok (.getfield 7, 3) := by decide +kernel
theorem dX1_fairLevel_173 : decode cX1_fairLevel 173 = .ok (.iload 6, 2) := by decide +kernel
theorem dX1_fairLevel_175 : decode cX1_fairLevel 175 = .ok (.iaload, 1) := by decide +kernel
theorem dX1_fairLevel_176 : decode cX1_fairLevel 176 = .ok (.iload_n 1, 1) := by decide +kernel
theorem dX1_fairLevel_177 : decode cX1_fairLevel 177 = .ok (.if_icmp .ne 31, 3) := by decide +kernel
theorem dX1_fairLevel_180 : decode cX1_fairLevel 180 = .ok (.aload_n 0, 1) := by decide +kernel
theorem dX1_fairLevel_181 : decode cX1_fairLevel 181 = .ok (.iload 6, 2) := by decide +kernel
theorem dX1_fairLevel_183 : decode cX1_fairLevel 183 = .ok (.invokevirtual 85, 3) := by decide +kernel
theorem dX1_fairLevel_186 : decode cX1_fairLevel 186 = .ok (.iload 5, 2) := by decide +kernel
theorem dX1_fairLevel_188 : decode cX1_fairLevel 188 = .ok (.if_icmp .ne 20, 3) := by decide +kernel
theorem dX1_fairLevel_191 : decode cX1_fairLevel 191 = .ok (.iload 5, 2) := by decide +kernel
theorem dX1_fairLevel_193 : decode cX1_fairLevel 193 = .ok (.iload 4, 2) := by decide +kernel
theorem dX1_fairLevel_195 : decode cX1_fairLevel 195 = .ok (.imul, 1) := by decide +kernel
theorem dX1_fairLevel_196 : decode cX1_fairLevel 196 = .ok (.iload_n 2, 1) := by decide +kernel
theorem dX1_fairLevel_197 : decode cX1_fairLevel 197 = .ok (.if_icmp .gt 11, 3) := by decide +kernel
theorem dX1_fairLevel_200 : decode cX1_fairLevel 200 = .ok (.iload_n 2, 1) := by decide +kernel
theorem dX1_fairLevel_201 : decode cX1_fairLevel 201 = .ok (.iload 5, 2) := by decide +kernel
theorem dX1_fairLevel_203 : decode cX1_fairLevel 203 = .ok (.isub, 1) := by decide +kernel
theorem dX1_fairLevel_204 : decode cX1_fairLevel 204 = .ok (.istore_n 2, 1) := by decide +kernel
theorem dX1_fairLevel_205 : decode cX1_fairLevel 205 = .ok (.iinc 4 (-1), 3) := by decide +kernel
theorem dX1_fairLevel_208 : decode cX1_fairLevel 208 = .ok (.iinc 6 1, 3) := by decide +kernel
theorem dX1_fairLevel_211 : decode cX1_fairLevel 211 = .ok (.goto (-51), 3) := by decide +kernel
theorem dX1_fairLevel_214 : decode cX1_fairLevel 214 = .ok (.iinc 5 1, 3) := by decide +kernel
theorem dX1_fairLevel_217 : decode cX1_fairLevel 217 = .ok (.goto (-67), 3) := by decide +kernel
theorem dX1_fairLevel_220 : decode cX1_fairLevel 220 = .ok (.sipush 1000, 3) := by decide +kernel
theorem dX1_fairLevel_223 : decode cX1_fairLevel 223 = .ok (.iload_n 2, 1) := by decide +kernel
theorem dX1_fairLevel_224 : decode cX1_fairLevel 224 = .ok (.imul, 1) := by decide +kernel
theorem dX1_fairLevel_225 : decode cX1_fairLevel 225 = .ok (.iload 4, 2) := by decide +kernel
theorem dX1_fairLevel_227 : decode cX1_fairLevel 227 = .ok (.idiv, 1) := by decide +kernel
theorem dX1_fairLevel_228 : decode cX1_fairLevel 228 = .ok (.ireturn, 1) := by decide +kernel
set_option maxRecDepth 20000 in
theorem ggX1_canBeReady_X1_lax : GoodIn wsX1_canBeReady wsX1_lax := goodIn_r _ [9, 4, 10, 11, 12, 8, 13, 14, 15, 16, 17, 18, 19, 20, 21, 22, 23, 24, 25, 26, 27, 28, 29, 30, 31, 32, 33, 34, 35, 36, 37, 38, 39, 40, 41, 42, 43, 44, 45] (by decide +kernel) (by decide +kernel)
set_option maxRecDepth 20000 in
theorem gX1_canBeReady_X1_lax : GoodIn wsX1_canBeReady (wsV RX1 76 RX1 yX1_lax wsX1_lax) := goodIn_app (goodIn_of _ (by decide +kernel)) ggX1_canBeReady_X1_lax
theorem dX1_canBeReady_0 : decode cX1_canBeReady 0 = .ok (.aload_n 0, 1) := by decide +kernel
theorem dX1_canBeReady_1 : decode cX1_canBeReady 1 = .ok (.iconst 0, 1) := by decide +kernel
theorem dX1_canBeReady_2 : decode cX1_canBeReady 2 = .ok (.putfield 42, 3) := by decide +kernel
theorem dX1_canBeReady_5 : decode cX1_canBeReady 5 = .ok (.iconst 1, 1) := by decide +kernel
theorem dX1_canBeReady_6 : decode cX1_canBeReady 6 = .ok (.istore_n 1, 1) := by decide +kernel
theorem dX1_canBeReady_7 : decode cX1_canBeReady 7 = .ok (.iconst 0, 1) := by decide +kernel
theorem dX1_canBeReady_8 : decode cX1_canBeReady 8 = .ok (.istore_n 2, 1) := by decide +kernel
theorem dX1_canBeReady_9 : decode cX1_canBeReady 9 = .ok (.iload_n 2, 1) := by decide +kernel
theorem dX1_canBeReady_10 : decode cX1_canBeReady 10 = .ok (.aload_n 0, 1) := by decide +kernel
theorem dX1_canBeReady_11 : decode cX1_canBeReady 11 = .ok (.getfield 49, 3) := by decide +kernel
theorem dX1_canBeReady_14 : decode cX1_canBeReady 14 = .ok (.if_icmp .ge 43, 3) := by decide +kernel
theorem dX1_canBeReady_17 : decode cX1_canBeReady 17 = .ok (.iload_n 1, 1) := by decide +kernel
theorem dX1_canBeReady_18 : decode cX1_canBeReady 18 = .ok (.aload_n 0, 1) := by decide +kernel
theorem dX1_canBeReady_19 : decode cX1_canBeReady 19 = .ok (.getfield 16, 3) := by decide +kernel
theorem dX1_canBeReady_22 : decode cX1_canBeReady 22 = .ok (.iload_n 2, 1) := by decide +kernel
theorem dX1_canBeReady_23 : decode cX1_canBeReady 23 = .ok (.baload, 1) := by decide +kernel
theorem dX1_canBeReady_24 : decode cX1_canBeReady 24 = .ok (.ifCond .eq 20, 3) := by decide +kernel
theorem dX1_canBeReady_27 : decode cX1_canBeReady 27 = .ok (.aload_n 0, 1) := by decide +kernel
theorem dX1_canBeReady_28 : decode cX1_canBeReady 28 = .ok (.getfield 20, 3) := by decide +kernel
theorem dX1_canBeReady_31 : decode cX1_canBeReady 31 = .ok (.iload_n 2, 1) := by decide +kernel
theorem dX1_canBeReady_32 : decode cX1_canBeReady 32 = .ok (.iaload, 1) := by decide +kernel
theorem dX1_canBeReady_33 : decode cX1_canBeReady 33 = .ok (.ifCond .eq 11, 3) := by decide +kernel
theorem dX1_canBeReady_36 : decode cX1_canBeReady 36 = .ok (.aload_n 0, 1) := by decide +kernel
theorem dX1_canBeReady_37 : decode cX1_canBeReady 37 = .ok (.iload_n 2, 1) := by decide +kernel
theorem dX1_canBeReady_38 : decode cX1_canBeReady 38 = .ok (.invokevirtual 76, 3) := by decide +kernel
theorem dX1_canBeReady_41 : decode cX1_canBeReady 41 = .ok (.ifCond .lt 7, 3) := by decide +kernel
theorem dX1_canBeReady_44 : decode cX1_canBeReady 44 = .ok (.iconst 1, 1) := by decide +kernel
theorem dX1_canBeReady_45 : decode cX1_canBeReady 45 = .ok (.goto 4, 3) := by decide +kernel
theorem dX1_canBeReady_48 : decode cX1_canBeReady 48 = .ok (.iconst 0, 1) := by decide +kernel
theorem dX1_canBeReady_49 : decode cX1_canBeReady 49 = .ok (.iand, 1) := by decide +kernel
theorem dX1_canBeReady_50 : decode cX1_canBeReady 50 = .ok (.istore_n 1, 1) := by decide +kernel
theorem dX1_canBeReady_51 : decode cX1_canBeReady 51 = .ok (.iinc 2 1, 3) := by decide +kernel
theorem dX1_canBeReady_54 : decode cX1_canBeReady 54 = .ok (.goto (-45), 3) := by decide +kernel
theorem dX1_canBeReady_57 : decode cX1_canBeReady 57 = .ok (.iload_n 1, 1) := by decide +kernel
theorem dX1_canBeReady_58 : decode cX1_canBeReady 58 = .ok (.ireturn, 1) := by decide +kernel
theorem dJ9_max_7cf53_0 : decode cJ9_max_7cf53 0 = .ok (.iload_n 0, 1) := by decide +kernel
theorem dJ9_max_7cf53_1 : decode cJ9_max_7cf53 1 = .ok (.iload_n 1, 1) := by decide +kernel
theorem dJ9_max_7cf53_2 : decode cJ9_max_7cf53 2 = .ok (.if_icmp .lt 7, 3) := by decide +kernel
theorem dJ9_max_7cf53_5 : decode cJ9_max_7cf53 5 = .ok (.iload_n 0, 1) := by decide +kernel
theorem dJ9_max_7cf53_6 : decode cJ9_max_7cf53 6 = .ok (.goto 4, 3) := by decide +kernel
theorem dJ9_max_7cf53_9 : decode cJ9_max_7cf53 9 = .ok (.iload_n 1, 1) := by decide +kernel
theorem dJ9_max_7cf53_10 : decode cJ9_max_7cf53 10 = .ok (.ireturn, 1) := by decide +kernel
theorem dJ9_min_7cf53_0 : decode cJ9_min_7cf53 0 = .ok (.iload_n 0, 1) := by decide +kernel
theorem dJ9_min_7cf53_1 : decode cJ9_min_7cf53 1 = .ok (.iload_n 1, 1) := by decide +kernel
theorem dJ9_min_7cf53_2 : decode cJ9_min_7cf53 2 = .ok (.if_icmp .gt 7, 3) := by decide +kernel
theorem dJ9_min_7cf53_5 : decode cJ9_min_7cf53 5 = .ok (.iload_n 0, 1) := by decide +kernel
theorem dJ9_min_7cf53_6 : decode cJ9_min_7cf53 6 = .ok (.goto 4, 3) := by decide +kernel
theorem dJ9_min_7cf53_9 : decode cJ9_min_7cf53 9 = .ok (.iload_n 1, 1) := by decide +kernel
theorem dJ9_min_7cf53_10 : decode cJ9_min_7cf53 10 = .ok (.ireturn, 1) := by decide +kernel
