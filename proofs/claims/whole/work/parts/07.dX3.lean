theorem dX3_init_0 : decode cX3_init 0 = .ok (.aload_n 0, 1) := by decide +kernel
theorem dX3_init_1 : decode cX3_init 1 = .ok (.invokespecial 3, 3) := by decide +kernel
theorem dX3_init_4 : decode cX3_init 4 = .ok (.aload_n 0, 1) := by decide +kernel
theorem dX3_init_5 : decode cX3_init 5 = .ok (.iconst 3, 1) := by decide +kernel
theorem dX3_init_6 : decode cX3_init 6 = .ok (.putfield 9, 3) := by decide +kernel
theorem dX3_init_9 : decode cX3_init 9 = .ok (.aload_n 0, 1) := by decide +kernel
theorem dX3_init_10 : decode cX3_init 10 = .ok (.iconst 4, 1) := by decide +kernel
theorem dX3_init_11 : decode cX3_init 11 = .ok (.newarray .int, 2) := by decide +kernel
theorem dX3_init_13 : decode cX3_init 13 = .ok (.putfield 13, 3) := by decide +kernel
theorem dX3_init_16 : decode cX3_init 16 = .ok (.aload_n 0, 1) := by decide +kernel
theorem dX3_init_17 : decode cX3_init 17 = .ok (.bipush 31, 2) := by decide +kernel
theorem dX3_init_19 : decode cX3_init 19 = .ok (.newarray .int, 2) := by decide +kernel
theorem dX3_init_21 : decode cX3_init 21 = .ok (.putfield 17, 3) := by decide +kernel
theorem dX3_init_24 : decode cX3_init 24 = .ok (.aload_n 0, 1) := by decide +kernel
theorem dX3_init_25 : decode cX3_init 25 = .ok (.sipush 248, 3) := by decide +kernel
theorem dX3_init_28 : decode cX3_init 28 = .ok (.newarray .int, 2) := by decide +kernel
theorem dX3_init_30 : decode cX3_init 30 = .ok (.putfield 20, 3) := by decide +kernel
theorem dX3_init_33 : decode cX3_init 33 = .ok (.aload_n 0, 1) := by decide +kernel
theorem dX3_init_34 : decode cX3_init 34 = .ok (.sipush 248, 3) := by decide +kernel
theorem dX3_init_37 : decode cX3_init 37 = .ok (.newarray .int, 2) := by decide +kernel
theorem dX3_init_39 : decode cX3_init 39 = .ok (.putfield 23, 3) := by decide +kernel
theorem dX3_init_42 : decode cX3_init 42 = .ok (.iconst 3, 1) := by decide +kernel
theorem dX3_init_43 : decode cX3_init 43 = .ok (.istore_n 1, 1) := by decide +kernel
theorem dX3_init_44 : decode cX3_init 44 = .ok (.iload_n 1, 1) := by decide +kernel
theorem dX3_init_45 : decode cX3_init 45 = .ok (.bipush 30, 2) := by decide +kernel
theorem dX3_init_47 : decode cX3_init 47 = .ok (.if_icmp .gt 19, 3) := by decide +kernel
theorem dX3_init_50 : decode cX3_init 50 = .ok (.aload_n 0, 1) := by decide +kernel
theorem dX3_init_51 : decode cX3_init 51 = .ok (.getfield 17, 3) := by decide +kernel
theorem dX3_init_54 : decode cX3_init 54 = .ok (.iload_n 1, 1) := by decide +kernel
theorem dX3_init_55 : decode cX3_init 55 = .ok (.bipush 90, 2) := by decide +kernel
theorem dX3_init_57 : decode cX3_init 57 = .ok (.iload_n 1, 1) := by decide +kernel
theorem dX3_init_58 : decode cX3_init 58 = .ok (.idiv, 1) := by decide +kernel
theorem dX3_init_59 : decode cX3_init 59 = .ok (.iastore, 1) := by decide +kernel
theorem dX3_init_60 : decode cX3_init 60 = .ok (.iinc 1 1, 3) := by decide +kernel
theorem dX3_init_63 : decode cX3_init 63 = .ok (.goto (-19), 3) := by decide +kernel
theorem dX3_init_66 : decode cX3_init 66 = .ok (.return_, 1) := by decide +kernel
theorem dX3_thrown_0 : decode cX3_thrown 0 = .ok (.aload_n 0, 1) := by decide +kernel
theorem dX3_thrown_1 : decode cX3_thrown 1 = .ok (.getfield 26, 3) := by decide +kernel
theorem dX3_thrown_4 : decode cX3_thrown 4 = .ok (.ireturn, 1) := by decide +kernel
theorem dX3_no_0 : decode cX3_no 0 = .ok (.aload_n 0, 1) := by decide +kernel
theorem dX3_no_1 : decode cX3_no 1 = .ok (.iload_n 1, 1) := by decide +kernel
theorem dX3_no_2 : decode cX3_no 2 = .ok (.putfield 26, 3) := by decide +kernel
theorem dX3_no_5 : decode cX3_no 5 = .ok (.iconst 0, 1) := by decide +kernel
theorem dX3_no_6 : decode cX3_no 6 = .ok (.ireturn, 1) := by decide +kernel
theorem dX3_isNot_0 : decode cX3_isNot 0 = .ok (.aload_n 0, 1) := by decide +kernel
theorem dX3_isNot_1 : decode cX3_isNot 1 = .ok (.iload_n 1, 1) := by decide +kernel
theorem dX3_isNot_2 : decode cX3_isNot 2 = .ok (.putfield 26, 3) := by decide +kernel
theorem dX3_isNot_5 : decode cX3_isNot 5 = .ok (.iconst 0, 1) := by decide +kernel
theorem dX3_isNot_6 : decode cX3_isNot 6 = .ok (.ireturn, 1) := by decide +kernel
theorem dX3_isIn_0 : decode cX3_isIn 0 = .ok (.iload_n 0, 1) := by decide +kernel
theorem dX3_isIn_1 : decode cX3_isIn 1 = .ok (.iload_n 1, 1) := by decide +kernel
theorem dX3_isIn_2 : decode cX3_isIn 2 = .ok (.if_icmp .lt 12, 3) := by decide +kernel
theorem dX3_isIn_5 : decode cX3_isIn 5 = .ok (.iload_n 0, 1) := by decide +kernel
theorem dX3_isIn_6 : decode cX3_isIn 6 = .ok (.iload_n 2, 1) := by decide +kernel
theorem dX3_isIn_7 : decode cX3_isIn 7 = .ok (.if_icmp .gt 7, 3) := by decide +kernel
theorem dX3_isIn_10 : decode cX3_isIn 10 = .ok (.iconst 1, 1) := by decide +kernel
theorem dX3_isIn_11 : decode cX3_isIn 11 = .ok (.goto 4, 3) := by decide +kernel
theorem dX3_isIn_14 : decode cX3_isIn 14 = .ok (.iconst 0, 1) := by decide +kernel
theorem dX3_isIn_15 : decode cX3_isIn 15 = .ok (.ireturn, 1) := by decide +kernel
set_option maxRecDepth 20000 in
theorem ggX3_isSide_X3_isIn : GoodIn wsX3_isSide wsX3_isIn := goodIn_r _ [4] (by decide +kernel) (by decide +kernel)
set_option maxRecDepth 20000 in
theorem gX3_isSide_X3_isIn : GoodIn wsX3_isSide (va_wsS RX3 29 yX3_isIn wsX3_isIn) := goodIn_app (goodIn_of _ (by decide +kernel)) ggX3_isSide_X3_isIn
theorem dX3_isSide_0 : decode cX3_isSide 0 = .ok (.iload_n 0, 1) := by decide +kernel
theorem dX3_isSide_1 : decode cX3_isSide 1 = .ok (.iconst 0, 1) := by decide +kernel
theorem dX3_isSide_2 : decode cX3_isSide 2 = .ok (.iconst 3, 1) := by decide +kernel
theorem dX3_isSide_3 : decode cX3_isSide 3 = .ok (.invokestatic 29, 3) := by decide +kernel
theorem dX3_isSide_6 : decode cX3_isSide 6 = .ok (.ireturn, 1) := by decide +kernel
set_option maxRecDepth 20000 in
theorem ggX3_isDirection_X3_isIn : GoodIn wsX3_isDirection wsX3_isIn := goodIn_r _ [4] (by decide +kernel) (by decide +kernel)
set_option maxRecDepth 20000 in
theorem gX3_isDirection_X3_isIn : GoodIn wsX3_isDirection (va_wsS RX3 29 yX3_isIn wsX3_isIn) := goodIn_app (goodIn_of _ (by decide +kernel)) ggX3_isDirection_X3_isIn
theorem dX3_isDirection_0 : decode cX3_isDirection 0 = .ok (.iload_n 0, 1) := by decide +kernel
theorem dX3_isDirection_1 : decode cX3_isDirection 1 = .ok (.iconst 0, 1) := by decide +kernel
theorem dX3_isDirection_2 : decode cX3_isDirection 2 = .ok (.bipush 7, 2) := by decide +kernel
theorem dX3_isDirection_4 : decode cX3_isDirection 4 = .ok (.invokestatic 29, 3) := by decide +kernel
theorem dX3_isDirection_7 : decode cX3_isDirection 7 = .ok (.ireturn, 1) := by decide +kernel
set_option maxRecDepth 20000 in
theorem ggX3_isReach_X3_isIn : GoodIn wsX3_isReach wsX3_isIn := goodIn_r _ [4] (by decide +kernel) (by decide +kernel)
set_option maxRecDepth 20000 in
theorem gX3_isReach_X3_isIn : GoodIn wsX3_isReach (va_wsS RX3 29 yX3_isIn wsX3_isIn) := goodIn_app (goodIn_of _ (by decide +kernel)) ggX3_isReach_X3_isIn
theorem dX3_isReach_0 : decode cX3_isReach 0 = .ok (.iload_n 0, 1) := by decide +kernel
theorem dX3_isReach_1 : decode cX3_isReach 1 = .ok (.iconst 3, 1) := by decide +kernel
theorem dX3_isReach_2 : decode cX3_isReach 2 = .ok (.bipush 30, 2) := by decide +kernel
theorem dX3_isReach_4 : decode cX3_isReach 4 = .ok (.invokestatic 29, 3) := by decide +kernel
theorem dX3_isReach_7 : decode cX3_isReach 7 = .ok (.ireturn, 1) := by decide +kernel
set_option maxRecDepth 20000 in
theorem ggX3_isLoad_X3_isIn : GoodIn wsX3_isLoad wsX3_isIn := goodIn_r _ [4] (by decide +kernel) (by decide +kernel)
set_option maxRecDepth 20000 in
theorem gX3_isLoad_X3_isIn : GoodIn wsX3_isLoad (va_wsS RX3 29 yX3_isIn wsX3_isIn) := goodIn_app (goodIn_of _ (by decide +kernel)) ggX3_isLoad_X3_isIn
theorem dX3_isLoad_0 : decode cX3_isLoad 0 = .ok (.iload_n 0, 1) := by decide +kernel
theorem dX3_isLoad_1 : decode cX3_isLoad 1 = .ok (.iconst 0, 1) := by decide +kernel
theorem dX3_isLoad_2 : decode cX3_isLoad 2 = .ok (.bipush 60, 2) := by decide +kernel
theorem dX3_isLoad_4 : decode cX3_isLoad 4 = .ok (.invokestatic 29, 3) := by decide +kernel
theorem dX3_isLoad_7 : decode cX3_isLoad 7 = .ok (.ireturn, 1) := by decide +kernel
theorem dX3_strain_0 : decode cX3_strain 0 = .ok (.iload_n 3, 1) := by decide +kernel
theorem dX3_strain_1 : decode cX3_strain 1 = .ok (.iconst 2, 1) := by decide +kernel
theorem dX3_strain_2 : decode cX3_strain 2 = .ok (.iload_n 1, 1) := by decide +kernel
theorem dX3_strain_3 : decode cX3_strain 3 = .ok (.imul, 1) := by decide +kernel
theorem dX3_strain_4 : decode cX3_strain 4 = .ok (.isub, 1) := by decide +kernel
theorem dX3_strain_5 : decode cX3_strain 5 = .ok (.invokestatic 33, 3) := by decide +kernel
theorem dX3_strain_8 : decode cX3_strain 8 = .ok (.istore 5, 2) := by decide +kernel
theorem dX3_strain_10 : decode cX3_strain 10 = .ok (.getstatic 39, 3) := by decide +kernel
theorem dX3_strain_13 : decode cX3_strain 13 = .ok (.iload 5, 2) := by decide +kernel
theorem dX3_strain_15 : decode cX3_strain 15 = .ok (.bipush 8, 2) := by decide +kernel
theorem dX3_strain_17 : decode cX3_strain 17 = .ok (.iload 5, 2) := by decide +kernel
theorem dX3_strain_19 : decode cX3_strain 19 = .ok (.isub, 1) := by decide +kernel
theorem dX3_strain_20 : decode cX3_strain 20 = .ok (.invokestatic 42, 3) := by decide +kernel
theorem dX3_strain_23 : decode cX3_strain 23 = .ok (.iaload, 1) := by decide +kernel
theorem dX3_strain_24 : decode cX3_strain 24 = .ok (.istore 6, 2) := by decide +kernel
theorem dX3_strain_26 : decode cX3_strain 26 = .ok (.bipush 10, 2) := by decide +kernel
theorem dX3_strain_28 : decode cX3_strain 28 = .ok (.iconst 2, 1) := by decide +kernel
theorem dX3_strain_29 : decode cX3_strain 29 = .ok (.aload_n 0, 1) := by decide +kernel
theorem dX3_strain_30 : decode cX3_strain 30 = .ok (.getfield 13, 3) := by decide +kernel
theorem dX3_strain_33 : decode cX3_strain 33 = .ok (.iload_n 1, 1) := by decide +kernel
theorem dX3_strain_34 : decode cX3_strain 34 = .ok (.iaload, 1) := by decide +kernel
theorem dX3_strain_35 : decode cX3_strain 35 = .ok (.iadd, 1) := by decide +kernel
theorem dX3_strain_36 : decode cX3_strain 36 = .ok (.imul, 1) := by decide +kernel
theorem dX3_strain_37 : decode cX3_strain 37 = .ok (.istore 7, 2) := by decide +kernel
theorem dX3_strain_39 : decode cX3_strain 39 = .ok (.iload_n 2, 1) := by decide +kernel
theorem dX3_strain_40 : decode cX3_strain 40 = .ok (.iload 4, 2) := by decide +kernel
theorem dX3_strain_42 : decode cX3_strain 42 = .ok (.iload 6, 2) := by decide +kernel
theorem dX3_strain_44 : decode cX3_strain 44 = .ok (.imul, 1) := by decide +kernel
theorem dX3_strain_45 : decode cX3_strain 45 = .ok (.iload 7, 2) := by decide +kernel
theorem dX3_strain_47 : decode cX3_strain 47 = .ok (.isub, 1) := by decide +kernel
theorem dX3_strain_48 : decode cX3_strain 48 = .ok (.imul, 1) := by decide +kernel
theorem dX3_strain_49 : decode cX3_strain 49 = .ok (.iconst 2, 1) := by decide +kernel
theorem dX3_strain_50 : decode cX3_strain 50 = .ok (.aload_n 0, 1) := by decide +kernel
theorem dX3_strain_51 : decode cX3_strain 51 = .ok (.getfield 46, 3) := by decide +kernel
theorem dX3_strain_54 : decode cX3_strain 54 = .ok (.imul, 1) := by decide +kernel
theorem dX3_strain_55 : decode cX3_strain 55 = .ok (.iconst 4, 1) := by decide +kernel
theorem dX3_strain_56 : decode cX3_strain 56 = .ok (.iload 6, 2) := by decide +kernel
theorem dX3_strain_58 : decode cX3_strain 58 = .ok (.imul, 1) := by decide +kernel
theorem dX3_strain_59 : decode cX3_strain 59 = .ok (.iload 7, 2) := by decide +kernel
theorem dX3_strain_61 : decode cX3_strain 61 = .ok (.iadd, 1) := by decide +kernel
theorem dX3_strain_62 : decode cX3_strain 62 = .ok (.imul, 1) := by decide +kernel
theorem dX3_strain_63 : decode cX3_strain 63 = .ok (.isub, 1) := by decide +kernel
theorem dX3_strain_64 : decode cX3_strain 64 = .ok (.bipush 20, 2) := by decide +kernel
theorem dX3_strain_66 : decode cX3_strain 66 = .ok (.iload 7, 2) := by decide +kernel
theorem dX3_strain_68 : decode cX3_strain 68 = .ok (.imul, 1) := by decide +kernel
theorem dX3_strain_69 : decode cX3_strain 69 = .ok (.isub, 1) := by decide +kernel
theorem dX3_strain_70 : decode cX3_strain 70 = .ok (.ireturn, 1) := by decide +kernel
set_option maxRecDepth 20000 in
theorem ggX3_isSafe_X3_strain : GoodIn wsX3_isSafe wsX3_strain := goodIn_r _ [6, 7, 8, 9, 10, 11, 12, 13, 14, 15, 16, 17, 18, 19, 20, 21, 22, 23, 24, 25, 26, 27, 28, 29] (by decide +kernel) (by decide +kernel)
set_option maxRecDepth 20000 in
theorem gX3_isSafe_X3_strain : GoodIn wsX3_isSafe (wsV RX3 49 RX3 yX3_strain wsX3_strain) := goodIn_app (goodIn_of _ (by decide +kernel)) ggX3_isSafe_X3_strain
theorem dX3_isSafe_0 : decode cX3_isSafe 0 = .ok (.iload_n 1, 1) := by decide +kernel
theorem dX3_isSafe_1 : decode cX3_isSafe 1 = .ok (.aload_n 0, 1) := by decide +kernel
theorem dX3_isSafe_2 : decode cX3_isSafe 2 = .ok (.getfield 17, 3) := by decide +kernel
theorem dX3_isSafe_5 : decode cX3_isSafe 5 = .ok (.iload_n 3, 1) := by decide +kernel
theorem dX3_isSafe_6 : decode cX3_isSafe 6 = .ok (.iaload, 1) := by decide +kernel
theorem dX3_isSafe_7 : decode cX3_isSafe 7 = .ok (.if_icmp .le 5, 3) := by decide +kernel
theorem dX3_isSafe_10 : decode cX3_isSafe 10 = .ok (.iconst 0, 1) := by decide +kernel
theorem dX3_isSafe_11 : decode cX3_isSafe 11 = .ok (.ireturn, 1) := by decide +kernel
theorem dX3_isSafe_12 : decode cX3_isSafe 12 = .ok (.iconst 0, 1) := by decide +kernel
theorem dX3_isSafe_13 : decode cX3_isSafe 13 = .ok (.istore 4, 2) := by decide +kernel
theorem dX3_isSafe_15 : decode cX3_isSafe 15 = .ok (.iload 4, 2) := by decide +kernel
theorem dX3_isSafe_17 : decode cX3_isSafe 17 = .ok (.iconst 4, 1) := by decide +kernel
theorem dX3_isSafe_18 : decode cX3_isSafe 18 = .ok (.if_icmp .ge 23, 3) := by decide +kernel
theorem dX3_isSafe_21 : decode cX3_isSafe 21 = .ok (.aload_n 0, 1) := by decide +kernel
theorem dX3_isSafe_22 : decode cX3_isSafe 22 = .ok (.iload 4, 2) := by decide +kernel
theorem dX3_isSafe_24 : decode cX3_isSafe 24 = .ok (.iload_n 1, 1) := by decide +kernel
theorem dX3_isSafe_25 : decode cX3_isSafe 25 = .ok (.iload_n 2, 1) := by decide +kernel
theorem dX3_isSafe_26 : decode cX3_isSafe 26 = .ok (.iload_n 3, 1) := by decide +kernel
theorem dX3_isSafe_27 : decode cX3_isSafe 27 = .ok (.invokevirtual 49, 3) := by decide +kernel
theorem dX3_isSafe_30 : decode cX3_isSafe 30 = .ok (.ifCond .le 5, 3) := by decide +kernel
theorem dX3_isSafe_33 : decode cX3_isSafe 33 = .ok (.iconst 0, 1) := by decide +kernel
theorem dX3_isSafe_34 : decode cX3_isSafe 34 = .ok (.ireturn, 1) := by decide +kernel
theorem dX3_isSafe_35 : decode cX3_isSafe 35 = .ok (.iinc 4 1, 3) := by decide +kernel
theorem dX3_isSafe_38 : decode cX3_isSafe 38 = .ok (.goto (-23), 3) := by decide +kernel
theorem dX3_isSafe_41 : decode cX3_isSafe 41 = .ok (.iconst 1, 1) := by decide +kernel
theorem dX3_isSafe_42 : decode cX3_isSafe 42 = .ok (.ireturn, 1) := by decide +kernel
set_option maxRecDepth 20000 in
theorem ggX3_isSafe__X3_isSafe : GoodIn wsX3_isSafe_ wsX3_isSafe := goodIn_r _ [8, 9, 10, 11, 12, 7, 13, 14, 15, 16, 17, 18, 19, 20, 21, 22, 23, 24, 25, 26, 27, 28, 29, 30, 31, 32, 33, 34, 35, 36] (by decide +kernel) (by decide +kernel)
set_option maxRecDepth 20000 in
theorem gX3_isSafe__X3_isSafe : GoodIn wsX3_isSafe_ (wsV RX3 59 RX3 yX3_isSafe wsX3_isSafe) := goodIn_app (goodIn_of _ (by decide +kernel)) ggX3_isSafe__X3_isSafe
theorem dX3_isSafe__0 : decode cX3_isSafe_ 0 = .ok (.aload_n 0, 1) := by decide +kernel
theorem dX3_isSafe__1 : decode cX3_isSafe_ 1 = .ok (.aload_n 0, 1) := by decide +kernel
theorem dX3_isSafe__2 : decode cX3_isSafe_ 2 = .ok (.getfield 53, 3) := by decide +kernel
theorem dX3_isSafe__5 : decode cX3_isSafe_ 5 = .ok (.aload_n 0, 1) := by decide +kernel
theorem dX3_isSafe__6 : decode cX3_isSafe_ 6 = .ok (.getfield 56, 3) := by decide +kernel
theorem dX3_isSafe__9 : decode cX3_isSafe_ 9 = .ok (.aload_n 0, 1) := by decide +kernel
theorem dX3_isSafe__10 : decode cX3_isSafe_ 10 = .ok (.getfield 9, 3) := by decide +kernel
theorem dX3_isSafe__13 : decode cX3_isSafe_ 13 = .ok (.invokevirtual 59, 3) := by decide +kernel
theorem dX3_isSafe__16 : decode cX3_isSafe_ 16 = .ok (.ireturn, 1) := by decide +kernel
set_option maxRecDepth 20000 in
theorem ggX3_setPlates_X3_isIn : GoodIn wsX3_setPlates wsX3_isIn := goodIn_r _ [6] (by decide +kernel) (by decide +kernel)
set_option maxRecDepth 20000 in
theorem gX3_setPlates_X3_isIn : GoodIn wsX3_setPlates (va_wsS RX3 29 yX3_isIn wsX3_isIn) := goodIn_app (goodIn_of _ (by decide +kernel)) ggX3_setPlates_X3_isIn
set_option maxRecDepth 20000 in
theorem ggX3_setPlates_X3_no : GoodIn wsX3_setPlates wsX3_no := goodIn_r _ [10, 1, 36, 37, 38, 39, 40, 41, 42, 43, 44, 45, 46, 47, 48] (by decide +kernel) (by decide +kernel)
set_option maxRecDepth 20000 in
theorem gX3_setPlates_X3_no : GoodIn wsX3_setPlates (wsV RX3 62 RX3 yX3_no wsX3_no) := goodIn_app (goodIn_of _ (by decide +kernel)) ggX3_setPlates_X3_no
set_option maxRecDepth 20000 in
theorem ggX3_setPlates_X3_isSafe_ : GoodIn wsX3_setPlates wsX3_isSafe_ := goodIn_r _ [14, 15, 16, 17, 18, 19, 20, 5, 21, 22, 23, 24, 25, 26, 27, 28, 29, 30, 31, 32, 33, 34, 35, 2, 36, 37, 38, 39, 40, 41, 42, 43, 44, 45, 46, 47, 48] (by decide +kernel) (by decide +kernel)
set_option maxRecDepth 20000 in
theorem gX3_setPlates_X3_isSafe_ : GoodIn wsX3_setPlates (wsV RX3 65 RX3 yX3_isSafe_ wsX3_isSafe_) := goodIn_app (goodIn_of _ (by decide +kernel)) ggX3_setPlates_X3_isSafe_
theorem dX3_setPlates_0 : decode cX3_setPlates 0 = .ok (.aload_n 0, 1) := by decide +kernel
theorem dX3_setPlates_1 : decode cX3_setPlates 1 = .ok (.iconst 0, 1) := by decide +kernel
theorem dX3_setPlates_2 : decode cX3_setPlates 2 = .ok (.putfield 26, 3) := by decide +kernel
theorem dX3_setPlates_5 : decode cX3_setPlates 5 = .ok (.iload_n 1, 1) := by decide +kernel
theorem dX3_setPlates_6 : decode cX3_setPlates 6 = .ok (.iconst 0, 1) := by decide +kernel
theorem dX3_setPlates_7 : decode cX3_setPlates 7 = .ok (.bipush 12, 2) := by decide +kernel
theorem dX3_setPlates_9 : decode cX3_setPlates 9 = .ok (.invokestatic 29, 3) := by decide +kernel
theorem dX3_setPlates_12 : decode cX3_setPlates 12 = .ok (.ifCond .ne 9, 3) := by decide +kernel
theorem dX3_setPlates_15 : decode cX3_setPlates 15 = .ok (.aload_n 0, 1) := by decide +kernel
theorem dX3_setPlates_16 : decode cX3_setPlates 16 = .ok (.iconst 1, 1) := by decide +kernel
theorem dX3_setPlates_17 : decode cX3_setPlates 17 = .ok (.invokevirtual 62, 3) := by decide +kernel
theorem dX3_setPlates_20 : decode cX3_setPlates 20 = .ok (.ireturn, 1) := by decide +kernel
theorem dX3_setPlates_21 : decode cX3_setPlates 21 = .ok (.aload_n 0, 1) := by decide +kernel
theorem dX3_setPlates_22 : decode cX3_setPlates 22 = .ok (.getfield 46, 3) := by decide +kernel
theorem dX3_setPlates_25 : decode cX3_setPlates 25 = .ok (.istore_n 2, 1) := by decide +kernel
theorem dX3_setPlates_26 : decode cX3_setPlates 26 = .ok (.aload_n 0, 1) := by decide +kernel
theorem dX3_setPlates_27 : decode cX3_setPlates 27 = .ok (.iload_n 1, 1) := by decide +kernel
theorem dX3_setPlates_28 : decode cX3_setPlates 28 = .ok (.putfield 46, 3) := by decide +kernel
theorem dX3_setPlates_31 : decode cX3_setPlates 31 = .ok (.aload_n 0, 1) := by decide +kernel
theorem dX3_setPlates_32 : decode cX3_setPlates 32 = .ok (.invokevirtual 65, 3) := by decide +kernel
theorem dX3_setPlates_35 : decode cX3_setPlates 35 = .ok (.ifCond .eq 5, 3) := by decide +kernel
theorem dX3_setPlates_38 : decode cX3_setPlates 38 = .ok (.iload_n 2, 1) := by decide +kernel
theorem dX3_setPlates_39 : decode cX3_setPlates 39 = .ok (.ireturn, 1) := by decide +kernel
theorem dX3_setPlates_40 : decode cX3_setPlates 40 = .ok (.aload_n 0, 1) := by decide +kernel
theorem dX3_setPlates_41 : decode cX3_setPlates 41 = .ok (.iload_n 2, 1) := by decide +kernel
theorem dX3_setPlates_42 : decode cX3_setPlates 42 = .ok (.putfield 46, 3) := by decide +kernel
theorem dX3_setPlates_45 : decode cX3_setPlates 45 = .ok (.aload_n 0, 1) := by decide +kernel
theorem dX3_setPlates_46 : decode cX3_setPlates 46 = .ok (.iconst 2, 1) := by decide +kernel
theorem dX3_setPlates_47 : decode cX3_setPlates 47 = .ok (.invokevirtual 62, 3) := by decide +kernel
theorem dX3_setPlates_50 : decode cX3_setPlates 50 = .ok (.ireturn, 1) := by decide +kernel
set_option maxRecDepth 20000 in
theorem ggX3_setOutrigger_X3_isSide : GoodIn wsX3_setOutrigger wsX3_isSide := goodIn_r _ [7, 8, 9, 6, 10] (by decide +kernel) (by decide +kernel)
set_option maxRecDepth 20000 in
theorem gX3_setOutrigger_X3_isSide : GoodIn wsX3_setOutrigger (va_wsS RX3 68 yX3_isSide wsX3_isSide) := goodIn_app (goodIn_of _ (by decide +kernel)) ggX3_setOutrigger_X3_isSide
set_option maxRecDepth 20000 in
theorem ggX3_setOutrigger_X3_no : GoodIn wsX3_setOutrigger wsX3_no := goodIn_r _ [14, 1, 39, 40, 41, 42, 43, 44, 45, 46, 47, 48, 49, 50, 51] (by decide +kernel) (by decide +kernel)
set_option maxRecDepth 20000 in
theorem gX3_setOutrigger_X3_no : GoodIn wsX3_setOutrigger (wsV RX3 62 RX3 yX3_no wsX3_no) := goodIn_app (goodIn_of _ (by decide +kernel)) ggX3_setOutrigger_X3_no
set_option maxRecDepth 20000 in
theorem ggX3_setOutrigger_X3_isIn : GoodIn wsX3_setOutrigger wsX3_isIn := goodIn_r _ [10] (by decide +kernel) (by decide +kernel)
set_option maxRecDepth 20000 in
theorem gX3_setOutrigger_X3_isIn : GoodIn wsX3_setOutrigger (va_wsS RX3 29 yX3_isIn wsX3_isIn) := goodIn_app (goodIn_of _ (by decide +kernel)) ggX3_setOutrigger_X3_isIn
set_option maxRecDepth 20000 in
theorem ggX3_setOutrigger_X3_isSafe_ : GoodIn wsX3_setOutrigger wsX3_isSafe_ := goodIn_r _ [18, 3, 19, 20, 21, 22, 23, 6, 24, 25, 26, 27, 28, 29, 30, 31, 32, 33, 34, 35, 36, 37, 2, 38, 39, 40, 41, 42, 43, 44, 45, 46, 47, 48, 49, 50, 51] (by decide +kernel) (by decide +kernel)
set_option maxRecDepth 20000 in
theorem gX3_setOutrigger_X3_isSafe_ : GoodIn wsX3_setOutrigger (wsV RX3 65 RX3 yX3_isSafe_ wsX3_isSafe_) := goodIn_app (goodIn_of _ (by decide +kernel)) ggX3_setOutrigger_X3_isSafe_
theorem dX3_setOutrigger_0 : decode cX3_setOutrigger 0 = .ok (.aload_n 0, 1) := by decide +kernel
theorem dX3_setOutrigger_1 : decode cX3_setOutrigger 1 = .ok (.iconst 0, 1) := by decide +kernel
theorem dX3_setOutrigger_2 : decode cX3_setOutrigger 2 = .ok (.putfield 26, 3) := by decide +kernel
theorem dX3_setOutrigger_5 : decode cX3_setOutrigger 5 = .ok (.iload_n 1, 1) := by decide +kernel
theorem dX3_setOutrigger_6 : decode cX3_setOutrigger 6 = .ok (.invokestatic 68, 3) := by decide +kernel
theorem dX3_setOutrigger_9 : decode cX3_setOutrigger 9 = .ok (.ifCond .ne 9, 3) := by decide +kernel
theorem dX3_setOutrigger_12 : decode cX3_setOutrigger 12 = .ok (.aload_n 0, 1) := by decide +kernel
theorem dX3_setOutrigger_13 : decode cX3_setOutrigger 13 = .ok (.iconst 1, 1) := by decide +kernel
theorem dX3_setOutrigger_14 : decode cX3_setOutrigger 14 = .ok (.invokevirtual 62, 3) := by decide +kernel
theorem dX3_setOutrigger_17 : decode cX3_setOutrigger 17 = .ok (.ireturn, 1) := by decide +kernel
theorem dX3_setOutrigger_18 : decode cX3_setOutrigger 18 = .ok (.iload_n 2, 1) := by decide +kernel
theorem dX3_setOutrigger_19 : decode cX3_setOutrigger 19 = .ok (.iconst 0, 1) := by decide +kernel
theorem dX3_setOutrigger_20 : decode cX3_setOutrigger 20 = .ok (.bipush 6, 2) := by decide +kernel
theorem dX3_setOutrigger_22 : decode cX3_setOutrigger 22 = .ok (.invokestatic 29, 3) := by decide +kernel
theorem dX3_setOutrigger_25 : decode cX3_setOutrigger 25 = .ok (.ifCond .ne 9, 3) := by decide +kernel
theorem dX3_setOutrigger_28 : decode cX3_setOutrigger 28 = .ok (.aload_n 0, 1) := by decide +kernel
theorem dX3_setOutrigger_29 : decode cX3_setOutrigger 29 = .ok (.iconst 2, 1) := by decide +kernel
theorem dX3_setOutrigger_30 : decode cX3_setOutrigger 30 = .ok (.invokevirtual 62, 3) := by decide +kernel
theorem dX3_setOutrigger_33 : decode cX3_setOutrigger 33 = .ok (.ireturn, 1) := by decide +kernel
theorem dX3_setOutrigger_34 : decode cX3_setOutrigger 34 = .ok (.aload_n 0, 1) := by decide +kernel
theorem dX3_setOutrigger_35 : decode cX3_setOutrigger 35 = .ok (.getfield 13, 3) := by decide +kernel
theorem dX3_setOutrigger_38 : decode cX3_setOutrigger 38 = .ok (.iload_n 1, 1) := by decide +kernel
theorem dX3_setOutrigger_39 : decode cX3_setOutrigger 39 = .ok (.iaload, 1) := by decide +kernel
theorem dX3_setOutrigger_40 : decode cX3_setOutrigger 40 = .ok (.istore_n 3, 1) := by decide +kernel
theorem dX3_setOutrigger_41 : decode cX3_setOutrigger 41 = .ok (.aload_n 0, 1) := by decide +kernel
theorem dX3_setOutrigger_42 : decode cX3_setOutrigger 42 = .ok (.getfield 13, 3) := by decide +kernel
theorem dX3_setOutrigger_45 : decode cX3_setOutrigger 45 = .ok (.iload_n 1, 1) := by decide +kernel
theorem dX3_setOutrigger_46 : decode cX3_setOutrigger 46 = .ok (.iload_n 2, 1) := by decide +kernel
theorem dX3_setOutrigger_47 : decode cX3_setOutrigger 47 = .ok (.iastore, 1) := by decide +kernel
theorem dX3_setOutrigger_48 : decode cX3_setOutrigger 48 = .ok (.aload_n 0, 1) := by decide +kernel
theorem dX3_setOutrigger_49 : decode cX3_setOutrigger 49 = .ok (.getfield 53, 3) := by decide +kernel
theorem dX3_setOutrigger_52 : decode cX3_setOutrigger 52 = .ok (.ifCond .ne 12, 3) := by decide +kernel
theorem dX3_setOutrigger_55 : decode cX3_setOutrigger 55 = .ok (.aload_n 0, 1) := by decide +kernel
theorem dX3_setOutrigger_56 : decode cX3_setOutrigger 56 = .ok (.invokevirtual 65, 3) := by decide +kernel
theorem dX3_setOutrigger_59 : decode cX3_setOutrigger 59 = .ok (.ifCond .eq 5, 3) := by decide +kernel
theorem dX3_setOutrigger_62 : decode cX3_setOutrigger 62 = .ok (.iload_n 3, 1) := by decide +kernel
theorem dX3_setOutrigger_63 : decode cX3_setOutrigger 63 = .ok (.ireturn, 1) := by decide +kernel
theorem dX3_setOutrigger_64 : decode cX3_setOutrigger 64 = .ok (.aload_n 0, 1) := by decide +kernel
theorem dX3_setOutrigger_65 : decode cX3_setOutrigger 65 = .ok (.getfield 13, 3) := by decide +kernel
theorem dX3_setOutrigger_68 : decode cX3_setOutrigger 68 = .ok (.iload_n 1, 1) := by decide +kernel
theorem dX3_setOutrigger_69 : decode cX3_setOutrigger 69 = .ok (.iload_n 3, 1) := by decide +kernel
theorem dX3_setOutrigger_70 : decode cX3_setOutrigger 70 = .ok (.iastore, 1) := by decide +kernel
theorem dX3_setOutrigger_71 : decode cX3_setOutrigger 71 = .ok (.aload_n 0, 1) := by decide +kernel
theorem dX3_setOutrigger_72 : decode cX3_setOutrigger 72 = .ok (.iconst 3, 1) := by decide +kernel
theorem dX3_setOutrigger_73 : decode cX3_setOutrigger 73 = .ok (.invokevirtual 62, 3) := by decide +kernel
theorem dX3_setOutrigger_76 : decode cX3_setOutrigger 76 = .ok (.ireturn, 1) := by decide +kernel
set_option maxRecDepth 20000 in
theorem ggX3_setLimit_X3_isReach : GoodIn wsX3_setLimit wsX3_isReach := goodIn_r _ [8, 9, 10, 7, 11] (by decide +kernel) (by decide +kernel)
set_option maxRecDepth 20000 in
theorem gX3_setLimit_X3_isReach : GoodIn wsX3_setLimit (va_wsS RX3 72 yX3_isReach wsX3_isReach) := goodIn_app (goodIn_of _ (by decide +kernel)) ggX3_setLimit_X3_isReach
set_option maxRecDepth 20000 in
theorem ggX3_setLimit_X3_isLoad : GoodIn wsX3_setLimit wsX3_isLoad := goodIn_r _ [14, 9, 10, 7, 11] (by decide +kernel) (by decide +kernel)
set_option maxRecDepth 20000 in
theorem gX3_setLimit_X3_isLoad : GoodIn wsX3_setLimit (va_wsS RX3 75 yX3_isLoad wsX3_isLoad) := goodIn_app (goodIn_of _ (by decide +kernel)) ggX3_setLimit_X3_isLoad
set_option maxRecDepth 20000 in
theorem ggX3_setLimit_X3_no : GoodIn wsX3_setLimit wsX3_no := goodIn_r _ [18, 1, 19, 20, 21, 22, 23, 24, 25, 26, 27, 28, 29, 30, 31] (by decide +kernel) (by decide +kernel)
set_option maxRecDepth 20000 in
theorem gX3_setLimit_X3_no : GoodIn wsX3_setLimit (wsV RX3 62 RX3 yX3_no wsX3_no) := goodIn_app (goodIn_of _ (by decide +kernel)) ggX3_setLimit_X3_no
theorem dX3_setLimit_0 : decode cX3_setLimit 0 = .ok (.aload_n 0, 1) := by decide +kernel
theorem dX3_setLimit_1 : decode cX3_setLimit 1 = .ok (.iconst 0, 1) := by decide +kernel
theorem dX3_setLimit_2 : decode cX3_setLimit 2 = .ok (.putfield 26, 3) := by decide +kernel
theorem dX3_setLimit_5 : decode cX3_setLimit 5 = .ok (.iload_n 1, 1) := by decide +kernel
theorem dX3_setLimit_6 : decode cX3_setLimit 6 = .ok (.invokestatic 72, 3) := by decide +kernel
theorem dX3_setLimit_9 : decode cX3_setLimit 9 = .ok (.ifCond .eq 10, 3) := by decide +kernel
theorem dX3_setLimit_12 : decode cX3_setLimit 12 = .ok (.iload_n 2, 1) := by decide +kernel
theorem dX3_setLimit_13 : decode cX3_setLimit 13 = .ok (.invokestatic 75, 3) := by decide +kernel
theorem dX3_setLimit_16 : decode cX3_setLimit 16 = .ok (.ifCond .ne 9, 3) := by decide +kernel
theorem dX3_setLimit_19 : decode cX3_setLimit 19 = .ok (.aload_n 0, 1) := by decide +kernel
theorem dX3_setLimit_20 : decode cX3_setLimit 20 = .ok (.iconst 1, 1) := by decide +kernel
theorem dX3_setLimit_21 : decode cX3_setLimit 21 = .ok (.invokevirtual 62, 3) := by decide +kernel
theorem dX3_setLimit_24 : decode cX3_setLimit 24 = .ok (.ireturn, 1) := by decide +kernel
theorem dX3_setLimit_25 : decode cX3_setLimit 25 = .ok (.iload_n 1, 1) := by decide +kernel
theorem dX3_setLimit_26 : decode cX3_setLimit 26 = .ok (.aload_n 0, 1) := by decide +kernel
theorem dX3_setLimit_27 : decode cX3_setLimit 27 = .ok (.getfield 9, 3) := by decide +kernel
theorem dX3_setLimit_30 : decode cX3_setLimit 30 = .ok (.if_icmp .ne 17, 3) := by decide +kernel
theorem dX3_setLimit_33 : decode cX3_setLimit 33 = .ok (.aload_n 0, 1) := by decide +kernel
theorem dX3_setLimit_34 : decode cX3_setLimit 34 = .ok (.getfield 53, 3) := by decide +kernel
theorem dX3_setLimit_37 : decode cX3_setLimit 37 = .ok (.iload_n 2, 1) := by decide +kernel
theorem dX3_setLimit_38 : decode cX3_setLimit 38 = .ok (.if_icmp .le 9, 3) := by decide +kernel
theorem dX3_setLimit_41 : decode cX3_setLimit 41 = .ok (.aload_n 0, 1) := by decide +kernel
theorem dX3_setLimit_42 : decode cX3_setLimit 42 = .ok (.iconst 2, 1) := by decide +kernel
theorem dX3_setLimit_43 : decode cX3_setLimit 43 = .ok (.invokevirtual 62, 3) := by decide +kernel
theorem dX3_setLimit_46 : decode cX3_setLimit 46 = .ok (.ireturn, 1) := by decide +kernel
theorem dX3_setLimit_47 : decode cX3_setLimit 47 = .ok (.aload_n 0, 1) := by decide +kernel
theorem dX3_setLimit_48 : decode cX3_setLimit 48 = .ok (.getfield 17, 3) := by decide +kernel
theorem dX3_setLimit_51 : decode cX3_setLimit 51 = .ok (.iload_n 1, 1) := by decide +kernel
theorem dX3_setLimit_52 : decode cX3_setLimit 52 = .ok (.iaload, 1) := by decide +kernel
theorem dX3_setLimit_53 : decode cX3_setLimit 53 = .ok (.istore_n 3, 1) := by decide +kernel
theorem dX3_setLimit_54 : decode cX3_setLimit 54 = .ok (.aload_n 0, 1) := by decide +kernel
theorem dX3_setLimit_55 : decode cX3_setLimit 55 = .ok (.getfield 17, 3) := by decide +kernel
theorem dX3_setLimit_58 : decode cX3_setLimit 58 = .ok (.iload_n 1, 1) := by decide +kernel
theorem dX3_setLimit_59 : decode cX3_setLimit 59 = .ok (.iload_n 2, 1) := by decide +kernel
theorem dX3_setLimit_60 : decode cX3_setLimit 60 = .ok (.iastore, 1) := by decide +kernel
theorem dX3_setLimit_61 : decode cX3_setLimit 61 = .ok (.iload_n 3, 1) := by decide +kernel
theorem dX3_setLimit_62 : decode cX3_setLimit 62 = .ok (.ireturn, 1) := by decide +kernel
set_option maxRecDepth 20000 in
theorem ggX3_lift_X3_isIn : GoodIn wsX3_lift wsX3_isIn := goodIn_r _ [10] (by decide +kernel) (by decide +kernel)
set_option maxRecDepth 20000 in
theorem gX3_lift_X3_isIn : GoodIn wsX3_lift (va_wsS RX3 29 yX3_isIn wsX3_isIn) := goodIn_app (goodIn_of _ (by decide +kernel)) ggX3_lift_X3_isIn
set_option maxRecDepth 20000 in
theorem ggX3_lift_X3_no : GoodIn wsX3_lift wsX3_no := goodIn_r _ [14, 1, 34, 35, 36, 37, 38, 39, 40, 41, 42, 43, 44, 45, 46] (by decide +kernel) (by decide +kernel)
set_option maxRecDepth 20000 in
theorem gX3_lift_X3_no : GoodIn wsX3_lift (wsV RX3 62 RX3 yX3_no wsX3_no) := goodIn_app (goodIn_of _ (by decide +kernel)) ggX3_lift_X3_no
set_option maxRecDepth 20000 in
theorem ggX3_lift_X3_isSafe : GoodIn wsX3_lift wsX3_isSafe := goodIn_r _ [18, 19, 20, 21, 22, 9, 23, 24, 25, 26, 27, 28, 29, 30, 31, 32, 33, 34, 35, 36, 37, 38, 39, 40, 41, 42, 43, 44, 45, 46] (by decide +kernel) (by decide +kernel)
set_option maxRecDepth 20000 in
theorem gX3_lift_X3_isSafe : GoodIn wsX3_lift (wsV RX3 59 RX3 yX3_isSafe wsX3_isSafe) := goodIn_app (goodIn_of _ (by decide +kernel)) ggX3_lift_X3_isSafe
theorem dX3_lift_0 : decode cX3_lift 0 = .ok (.aload_n 0, 1) := by decide +kernel
theorem dX3_lift_1 : decode cX3_lift 1 = .ok (.iconst 0, 1) := by decide +kernel
theorem dX3_lift_2 : decode cX3_lift 2 = .ok (.putfield 26, 3) := by decide +kernel
theorem dX3_lift_5 : decode cX3_lift 5 = .ok (.iload_n 1, 1) := by decide +kernel
theorem dX3_lift_6 : decode cX3_lift 6 = .ok (.iconst 1, 1) := by decide +kernel
theorem dX3_lift_7 : decode cX3_lift 7 = .ok (.bipush 60, 2) := by decide +kernel
theorem dX3_lift_9 : decode cX3_lift 9 = .ok (.invokestatic 29, 3) := by decide +kernel
theorem dX3_lift_12 : decode cX3_lift 12 = .ok (.ifCond .ne 9, 3) := by decide +kernel
theorem dX3_lift_15 : decode cX3_lift 15 = .ok (.aload_n 0, 1) := by decide +kernel
theorem dX3_lift_16 : decode cX3_lift 16 = .ok (.iconst 1, 1) := by decide +kernel
theorem dX3_lift_17 : decode cX3_lift 17 = .ok (.invokevirtual 62, 3) := by decide +kernel
theorem dX3_lift_20 : decode cX3_lift 20 = .ok (.ireturn, 1) := by decide +kernel
theorem dX3_lift_21 : decode cX3_lift 21 = .ok (.aload_n 0, 1) := by decide +kernel
theorem dX3_lift_22 : decode cX3_lift 22 = .ok (.getfield 53, 3) := by decide +kernel
theorem dX3_lift_25 : decode cX3_lift 25 = .ok (.ifCond .gt 19, 3) := by decide +kernel
theorem dX3_lift_28 : decode cX3_lift 28 = .ok (.aload_n 0, 1) := by decide +kernel
theorem dX3_lift_29 : decode cX3_lift 29 = .ok (.iload_n 1, 1) := by decide +kernel
theorem dX3_lift_30 : decode cX3_lift 30 = .ok (.aload_n 0, 1) := by decide +kernel
theorem dX3_lift_31 : decode cX3_lift 31 = .ok (.getfield 56, 3) := by decide +kernel
theorem dX3_lift_34 : decode cX3_lift 34 = .ok (.aload_n 0, 1) := by decide +kernel
theorem dX3_lift_35 : decode cX3_lift 35 = .ok (.getfield 9, 3) := by decide +kernel
theorem dX3_lift_38 : decode cX3_lift 38 = .ok (.invokevirtual 59, 3) := by decide +kernel
theorem dX3_lift_41 : decode cX3_lift 41 = .ok (.ifCond .ne 9, 3) := by decide +kernel
theorem dX3_lift_44 : decode cX3_lift 44 = .ok (.aload_n 0, 1) := by decide +kernel
theorem dX3_lift_45 : decode cX3_lift 45 = .ok (.iconst 2, 1) := by decide +kernel
theorem dX3_lift_46 : decode cX3_lift 46 = .ok (.invokevirtual 62, 3) := by decide +kernel
theorem dX3_lift_49 : decode cX3_lift 49 = .ok (.ireturn, 1) := by decide +kernel
theorem dX3_lift_50 : decode cX3_lift 50 = .ok (.aload_n 0, 1) := by decide +kernel
theorem dX3_lift_51 : decode cX3_lift 51 = .ok (.iload_n 1, 1) := by decide +kernel
theorem dX3_lift_52 : decode cX3_lift 52 = .ok (.putfield 53, 3) := by decide +kernel
theorem dX3_lift_55 : decode cX3_lift 55 = .ok (.aload_n 0, 1) := by decide +kernel
theorem dX3_lift_56 : decode cX3_lift 56 = .ok (.dup, 1) := by decide +kernel
theorem dX3_lift_57 : decode cX3_lift 57 = .ok (.getfield 78, 3) := by decide +kernel
theorem dX3_lift_60 : decode cX3_lift 60 = .ok (.iconst 1, 1) := by decide +kernel
theorem dX3_lift_61 : decode cX3_lift 61 = .ok (.iadd, 1) := by decide +kernel
theorem dX3_lift_62 : decode cX3_lift 62 = .ok (.putfield 78, 3) := by decide +kernel
theorem dX3_lift_65 : decode cX3_lift 65 = .ok (.aload_n 0, 1) := by decide +kernel
theorem dX3_lift_66 : decode cX3_lift 66 = .ok (.dup, 1) := by decide +kernel
theorem dX3_lift_67 : decode cX3_lift 67 = .ok (.getfield 81, 3) := by decide +kernel
theorem dX3_lift_70 : decode cX3_lift 70 = .ok (.iload_n 1, 1) := by decide +kernel
theorem dX3_lift_71 : decode cX3_lift 71 = .ok (.iadd, 1) := by decide +kernel
theorem dX3_lift_72 : decode cX3_lift 72 = .ok (.putfield 81, 3) := by decide +kernel
theorem dX3_lift_75 : decode cX3_lift 75 = .ok (.aload_n 0, 1) := by decide +kernel
theorem dX3_lift_76 : decode cX3_lift 76 = .ok (.getfield 78, 3) := by decide +kernel
theorem dX3_lift_79 : decode cX3_lift 79 = .ok (.ireturn, 1) := by decide +kernel
set_option maxRecDepth 20000 in
theorem ggX3_setDown_X3_isSafe : GoodIn wsX3_setDown wsX3_isSafe := goodIn_r _ [9, 10, 11, 12, 13, 8, 14, 15, 16, 17, 18, 19, 20, 21, 22, 23, 24, 29, 30, 31, 32, 33, 34, 35, 36, 37, 38, 39, 40, 41] (by decide +kernel) (by decide +kernel)
set_option maxRecDepth 20000 in
theorem gX3_setDown_X3_isSafe : GoodIn wsX3_setDown (wsV RX3 59 RX3 yX3_isSafe wsX3_isSafe) := goodIn_app (goodIn_of _ (by decide +kernel)) ggX3_setDown_X3_isSafe
set_option maxRecDepth 20000 in
theorem ggX3_setDown_X3_no : GoodIn wsX3_setDown wsX3_no := goodIn_r _ [28, 1, 29, 30, 31, 32, 33, 34, 35, 36, 37, 38, 39, 40, 41] (by decide +kernel) (by decide +kernel)
set_option maxRecDepth 20000 in
theorem gX3_setDown_X3_no : GoodIn wsX3_setDown (wsV RX3 62 RX3 yX3_no wsX3_no) := goodIn_app (goodIn_of _ (by decide +kernel)) ggX3_setDown_X3_no
theorem dX3_setDown_0 : decode cX3_setDown 0 = .ok (.aload_n 0, 1) := by decide +kernel
theorem dX3_setDown_1 : decode cX3_setDown 1 = .ok (.iconst 0, 1) := by decide +kernel
theorem dX3_setDown_2 : decode cX3_setDown 2 = .ok (.putfield 26, 3) := by decide +kernel
theorem dX3_setDown_5 : decode cX3_setDown 5 = .ok (.aload_n 0, 1) := by decide +kernel
theorem dX3_setDown_6 : decode cX3_setDown 6 = .ok (.getfield 53, 3) := by decide +kernel
theorem dX3_setDown_9 : decode cX3_setDown 9 = .ok (.ifCond .eq 19, 3) := by decide +kernel
theorem dX3_setDown_12 : decode cX3_setDown 12 = .ok (.aload_n 0, 1) := by decide +kernel
theorem dX3_setDown_13 : decode cX3_setDown 13 = .ok (.iconst 0, 1) := by decide +kernel
theorem dX3_setDown_14 : decode cX3_setDown 14 = .ok (.aload_n 0, 1) := by decide +kernel
theorem dX3_setDown_15 : decode cX3_setDown 15 = .ok (.getfield 56, 3) := by decide +kernel
theorem dX3_setDown_18 : decode cX3_setDown 18 = .ok (.aload_n 0, 1) := by decide +kernel
theorem dX3_setDown_19 : decode cX3_setDown 19 = .ok (.getfield 9, 3) := by decide +kernel
theorem dX3_setDown_22 : decode cX3_setDown 22 = .ok (.invokevirtual 59, 3) := by decide +kernel
theorem dX3_setDown_25 : decode cX3_setDown 25 = .ok (.ifCond .ne 9, 3) := by decide +kernel
theorem dX3_setDown_28 : decode cX3_setDown 28 = .ok (.aload_n 0, 1) := by decide +kernel
theorem dX3_setDown_29 : decode cX3_setDown 29 = .ok (.iconst 1, 1) := by decide +kernel
theorem dX3_setDown_30 : decode cX3_setDown 30 = .ok (.invokevirtual 62, 3) := by decide +kernel
theorem dX3_setDown_33 : decode cX3_setDown 33 = .ok (.ireturn, 1) := by decide +kernel
theorem dX3_setDown_34 : decode cX3_setDown 34 = .ok (.aload_n 0, 1) := by decide +kernel
theorem dX3_setDown_35 : decode cX3_setDown 35 = .ok (.getfield 53, 3) := by decide +kernel
theorem dX3_setDown_38 : decode cX3_setDown 38 = .ok (.istore_n 1, 1) := by decide +kernel
theorem dX3_setDown_39 : decode cX3_setDown 39 = .ok (.aload_n 0, 1) := by decide +kernel
theorem dX3_setDown_40 : decode cX3_setDown 40 = .ok (.iconst 0, 1) := by decide +kernel
theorem dX3_setDown_41 : decode cX3_setDown 41 = .ok (.putfield 53, 3) := by decide +kernel
theorem dX3_setDown_44 : decode cX3_setDown 44 = .ok (.iload_n 1, 1) := by decide +kernel
theorem dX3_setDown_45 : decode cX3_setDown 45 = .ok (.ireturn, 1) := by decide +kernel
theorem dX3_moved_0 : decode cX3_moved 0 = .ok (.aload_n 0, 1) := by decide +kernel
theorem dX3_moved_1 : decode cX3_moved 1 = .ok (.dup, 1) := by decide +kernel
theorem dX3_moved_2 : decode cX3_moved 2 = .ok (.getfield 84, 3) := by decide +kernel
theorem dX3_moved_5 : decode cX3_moved 5 = .ok (.aload_n 0, 1) := by decide +kernel
theorem dX3_moved_6 : decode cX3_moved 6 = .ok (.getfield 53, 3) := by decide +kernel
theorem dX3_moved_9 : decode cX3_moved 9 = .ok (.ifCond .le 7, 3) := by decide +kernel
theorem dX3_moved_12 : decode cX3_moved 12 = .ok (.iconst 1, 1) := by decide +kernel
theorem dX3_moved_13 : decode cX3_moved 13 = .ok (.goto 4, 3) := by decide +kernel
theorem dX3_moved_16 : decode cX3_moved 16 = .ok (.iconst 0, 1) := by decide +kernel
theorem dX3_moved_17 : decode cX3_moved 17 = .ok (.iadd, 1) := by decide +kernel
theorem dX3_moved_18 : decode cX3_moved 18 = .ok (.putfield 84, 3) := by decide +kernel
theorem dX3_moved_21 : decode cX3_moved 21 = .ok (.return_, 1) := by decide +kernel
set_option maxRecDepth 20000 in
theorem ggX3_swing_X3_isIn : GoodIn wsX3_swing wsX3_isIn := goodIn_r _ [8] (by decide +kernel) (by decide +kernel)
set_option maxRecDepth 20000 in
theorem gX3_swing_X3_isIn : GoodIn wsX3_swing (va_wsS RX3 29 yX3_isIn wsX3_isIn) := goodIn_app (goodIn_of _ (by decide +kernel)) ggX3_swing_X3_isIn
set_option maxRecDepth 20000 in
theorem ggX3_swing_X3_no : GoodIn wsX3_swing wsX3_no := goodIn_r _ [12, 1, 37, 38, 39, 40, 41, 42, 43, 44, 45, 46, 47, 48, 49] (by decide +kernel) (by decide +kernel)
set_option maxRecDepth 20000 in
theorem gX3_swing_X3_no : GoodIn wsX3_swing (wsV RX3 62 RX3 yX3_no wsX3_no) := goodIn_app (goodIn_of _ (by decide +kernel)) ggX3_swing_X3_no
set_option maxRecDepth 20000 in
theorem ggX3_swing_X3_isSafe : GoodIn wsX3_swing wsX3_isSafe := goodIn_r _ [16, 17, 18, 19, 20, 7, 21, 22, 23, 24, 25, 26, 27, 28, 29, 30, 31, 37, 38, 39, 40, 41, 42, 43, 44, 45, 46, 47, 48, 49] (by decide +kernel) (by decide +kernel)
set_option maxRecDepth 20000 in
theorem gX3_swing_X3_isSafe : GoodIn wsX3_swing (wsV RX3 59 RX3 yX3_isSafe wsX3_isSafe) := goodIn_app (goodIn_of _ (by decide +kernel)) ggX3_swing_X3_isSafe
set_option maxRecDepth 20000 in
theorem ggX3_swing_X3_moved : GoodIn wsX3_swing wsX3_moved := goodIn_r _ [35, 36, 3, 37, 38, 39, 40, 41, 42, 43, 44, 45, 46, 47, 48, 49] (by decide +kernel) (by decide +kernel)
set_option maxRecDepth 20000 in
theorem gX3_swing_X3_moved : GoodIn wsX3_swing (wsV RX3 87 RX3 yX3_moved wsX3_moved) := goodIn_app (goodIn_of _ (by decide +kernel)) ggX3_swing_X3_moved
theorem dX3_swing_0 : decode cX3_swing 0 = .ok (.aload_n 0, 1) := by decide +kernel
theorem dX3_swing_1 : decode cX3_swing 1 = .ok (.iconst 0, 1) := by decide +kernel
theorem dX3_swing_2 : decode cX3_swing 2 = .ok (.putfield 26, 3) := by decide +kernel
theorem dX3_swing_5 : decode cX3_swing 5 = .ok (.iload_n 1, 1) := by decide +kernel
theorem dX3_swing_6 : decode cX3_swing 6 = .ok (.iconst 1, 1) := by decide +kernel
theorem dX3_swing_7 : decode cX3_swing 7 = .ok (.bipush 8, 2) := by decide +kernel
theorem dX3_swing_9 : decode cX3_swing 9 = .ok (.invokestatic 29, 3) := by decide +kernel
theorem dX3_swing_12 : decode cX3_swing 12 = .ok (.ifCond .ne 9, 3) := by decide +kernel
theorem dX3_swing_15 : decode cX3_swing 15 = .ok (.aload_n 0, 1) := by decide +kernel
theorem dX3_swing_16 : decode cX3_swing 16 = .ok (.iconst 1, 1) := by decide +kernel
theorem dX3_swing_17 : decode cX3_swing 17 = .ok (.invokevirtual 62, 3) := by decide +kernel
theorem dX3_swing_20 : decode cX3_swing 20 = .ok (.ireturn, 1) := by decide +kernel
theorem dX3_swing_21 : decode cX3_swing 21 = .ok (.iconst 0, 1) := by decide +kernel
theorem dX3_swing_22 : decode cX3_swing 22 = .ok (.istore_n 3, 1) := by decide +kernel
theorem dX3_swing_23 : decode cX3_swing 23 = .ok (.iload_n 3, 1) := by decide +kernel
theorem dX3_swing_24 : decode cX3_swing 24 = .ok (.iload_n 1, 1) := by decide +kernel
theorem dX3_swing_25 : decode cX3_swing 25 = .ok (.if_icmp .ge 58, 3) := by decide +kernel
theorem dX3_swing_28 : decode cX3_swing 28 = .ok (.aload_n 0, 1) := by decide +kernel
theorem dX3_swing_29 : decode cX3_swing 29 = .ok (.getfield 56, 3) := by decide +kernel
theorem dX3_swing_32 : decode cX3_swing 32 = .ok (.iload_n 2, 1) := by decide +kernel
theorem dX3_swing_33 : decode cX3_swing 33 = .ok (.ifCond .eq 7, 3) := by decide +kernel
theorem dX3_swing_36 : decode cX3_swing 36 = .ok (.iconst 1, 1) := by decide +kernel
theorem dX3_swing_37 : decode cX3_swing 37 = .ok (.goto 5, 3) := by decide +kernel
theorem dX3_swing_40 : decode cX3_swing 40 = .ok (.bipush 7, 2) := by decide +kernel
theorem dX3_swing_42 : decode cX3_swing 42 = .ok (.iadd, 1) := by decide +kernel
theorem dX3_swing_43 : decode cX3_swing 43 = .ok (.bipush 8, 2) := by decide +kernel
theorem dX3_swing_45 : decode cX3_swing 45 = .ok (.irem, 1) := by decide +kernel
theorem dX3_swing_46 : decode cX3_swing 46 = .ok (.istore 4, 2) := by decide +kernel
theorem dX3_swing_48 : decode cX3_swing 48 = .ok (.aload_n 0, 1) := by decide +kernel
theorem dX3_swing_49 : decode cX3_swing 49 = .ok (.aload_n 0, 1) := by decide +kernel
theorem dX3_swing_50 : decode cX3_swing 50 = .ok (.getfield 53, 3) := by decide +kernel
theorem dX3_swing_53 : decode cX3_swing 53 = .ok (.iload 4, 2) := by decide +kernel
theorem dX3_swing_55 : decode cX3_swing 55 = .ok (.aload_n 0, 1) := by decide +kernel
theorem dX3_swing_56 : decode cX3_swing 56 = .ok (.getfield 9, 3) := by decide +kernel
theorem dX3_swing_59 : decode cX3_swing 59 = .ok (.invokevirtual 59, 3) := by decide +kernel
theorem dX3_swing_62 : decode cX3_swing 62 = .ok (.ifCond .ne 5, 3) := by decide +kernel
theorem dX3_swing_65 : decode cX3_swing 65 = .ok (.iload_n 3, 1) := by decide +kernel
theorem dX3_swing_66 : decode cX3_swing 66 = .ok (.ireturn, 1) := by decide +kernel
theorem dX3_swing_67 : decode cX3_swing 67 = .ok (.aload_n 0, 1) := by decide +kernel
theorem dX3_swing_68 : decode cX3_swing 68 = .ok (.iload 4, 2) := by decide +kernel
theorem dX3_swing_70 : decode cX3_swing 70 = .ok (.putfield 56, 3) := by decide +kernel
theorem dX3_swing_73 : decode cX3_swing 73 = .ok (.aload_n 0, 1) := by decide +kernel
theorem dX3_swing_74 : decode cX3_swing 74 = .ok (.invokevirtual 87, 3) := by decide +kernel
theorem dX3_swing_77 : decode cX3_swing 77 = .ok (.iinc 3 1, 3) := by decide +kernel
theorem dX3_swing_80 : decode cX3_swing 80 = .ok (.goto (-57), 3) := by decide +kernel
theorem dX3_swing_83 : decode cX3_swing 83 = .ok (.iload_n 1, 1) := by decide +kernel
theorem dX3_swing_84 : decode cX3_swing 84 = .ok (.ireturn, 1) := by decide +kernel
set_option maxRecDepth 20000 in
theorem ggX3_stretch_X3_isIn : GoodIn wsX3_stretch wsX3_isIn := goodIn_r _ [8] (by decide +kernel) (by decide +kernel)
set_option maxRecDepth 20000 in
theorem gX3_stretch_X3_isIn : GoodIn wsX3_stretch (va_wsS RX3 29 yX3_isIn wsX3_isIn) := goodIn_app (goodIn_of _ (by decide +kernel)) ggX3_stretch_X3_isIn
set_option maxRecDepth 20000 in
theorem ggX3_stretch_X3_no : GoodIn wsX3_stretch wsX3_no := goodIn_r _ [12, 1, 40, 41, 42, 43, 44, 45, 46, 47, 48, 49, 50, 51, 52] (by decide +kernel) (by decide +kernel)
set_option maxRecDepth 20000 in
theorem gX3_stretch_X3_no : GoodIn wsX3_stretch (wsV RX3 62 RX3 yX3_no wsX3_no) := goodIn_app (goodIn_of _ (by decide +kernel)) ggX3_stretch_X3_no
set_option maxRecDepth 20000 in
theorem ggX3_stretch_X3_isReach : GoodIn wsX3_stretch wsX3_isReach := goodIn_r _ [15, 5, 6, 7, 8] (by decide +kernel) (by decide +kernel)
set_option maxRecDepth 20000 in
theorem gX3_stretch_X3_isReach : GoodIn wsX3_stretch (va_wsS RX3 72 yX3_isReach wsX3_isReach) := goodIn_app (goodIn_of _ (by decide +kernel)) ggX3_stretch_X3_isReach
set_option maxRecDepth 20000 in
theorem ggX3_stretch_X3_isSafe : GoodIn wsX3_stretch wsX3_isSafe := goodIn_r _ [19, 20, 21, 22, 23, 7, 24, 25, 26, 27, 28, 29, 30, 31, 32, 33, 34, 40, 41, 42, 43, 44, 45, 46, 47, 48, 49, 50, 51, 52] (by decide +kernel) (by decide +kernel)
set_option maxRecDepth 20000 in
theorem gX3_stretch_X3_isSafe : GoodIn wsX3_stretch (wsV RX3 59 RX3 yX3_isSafe wsX3_isSafe) := goodIn_app (goodIn_of _ (by decide +kernel)) ggX3_stretch_X3_isSafe
set_option maxRecDepth 20000 in
theorem ggX3_stretch_X3_moved : GoodIn wsX3_stretch wsX3_moved := goodIn_r _ [38, 39, 3, 40, 41, 42, 43, 44, 45, 46, 47, 48, 49, 50, 51, 52] (by decide +kernel) (by decide +kernel)
set_option maxRecDepth 20000 in
theorem gX3_stretch_X3_moved : GoodIn wsX3_stretch (wsV RX3 87 RX3 yX3_moved wsX3_moved) := goodIn_app (goodIn_of _ (by decide +kernel)) ggX3_stretch_X3_moved
theorem dX3_stretch_0 : decode cX3_stretch 0 = .ok (.aload_n 0, 1) := by decide +kernel
theorem dX3_stretch_1 : decode cX3_stretch 1 = .ok (.iconst 0, 1) := by decide +kernel
theorem dX3_stretch_2 : decode cX3_stretch 2 = .ok (.putfield 26, 3) := by decide +kernel
theorem dX3_stretch_5 : decode cX3_stretch 5 = .ok (.iload_n 1, 1) := by decide +kernel
theorem dX3_stretch_6 : decode cX3_stretch 6 = .ok (.iconst 1, 1) := by decide +kernel
theorem dX3_stretch_7 : decode cX3_stretch 7 = .ok (.bipush 30, 2) := by decide +kernel
theorem dX3_stretch_9 : decode cX3_stretch 9 = .ok (.invokestatic 29, 3) := by decide +kernel
theorem dX3_stretch_12 : decode cX3_stretch 12 = .ok (.ifCond .ne 9, 3) := by decide +kernel
theorem dX3_stretch_15 : decode cX3_stretch 15 = .ok (.aload_n 0, 1) := by decide +kernel
theorem dX3_stretch_16 : decode cX3_stretch 16 = .ok (.iconst 1, 1) := by decide +kernel
theorem dX3_stretch_17 : decode cX3_stretch 17 = .ok (.invokevirtual 62, 3) := by decide +kernel
theorem dX3_stretch_20 : decode cX3_stretch 20 = .ok (.ireturn, 1) := by decide +kernel
theorem dX3_stretch_21 : decode cX3_stretch 21 = .ok (.iconst 0, 1) := by decide +kernel
theorem dX3_stretch_22 : decode cX3_stretch 22 = .ok (.istore_n 3, 1) := by decide +kernel
theorem dX3_stretch_23 : decode cX3_stretch 23 = .ok (.iload_n 3, 1) := by decide +kernel
theorem dX3_stretch_24 : decode cX3_stretch 24 = .ok (.iload_n 1, 1) := by decide +kernel
theorem dX3_stretch_25 : decode cX3_stretch 25 = .ok (.if_icmp .ge 62, 3) := by decide +kernel
theorem dX3_stretch_28 : decode cX3_stretch 28 = .ok (.aload_n 0, 1) := by decide +kernel
theorem dX3_stretch_29 : decode cX3_stretch 29 = .ok (.getfield 9, 3) := by decide +kernel
theorem dX3_stretch_32 : decode cX3_stretch 32 = .ok (.iload_n 2, 1) := by decide +kernel
theorem dX3_stretch_33 : decode cX3_stretch 33 = .ok (.ifCond .eq 7, 3) := by decide +kernel
theorem dX3_stretch_36 : decode cX3_stretch 36 = .ok (.iconst 1, 1) := by decide +kernel
theorem dX3_stretch_37 : decode cX3_stretch 37 = .ok (.goto 4, 3) := by decide +kernel
theorem dX3_stretch_40 : decode cX3_stretch 40 = .ok (.iconst (-1), 1) := by decide +kernel
theorem dX3_stretch_41 : decode cX3_stretch 41 = .ok (.iadd, 1) := by decide +kernel
theorem dX3_stretch_42 : decode cX3_stretch 42 = .ok (.istore 4, 2) := by decide +kernel
theorem dX3_stretch_44 : decode cX3_stretch 44 = .ok (.iload 4, 2) := by decide +kernel
theorem dX3_stretch_46 : decode cX3_stretch 46 = .ok (.invokestatic 72, 3) := by decide +kernel
theorem dX3_stretch_49 : decode cX3_stretch 49 = .ok (.ifCond .eq 20, 3) := by decide +kernel
theorem dX3_stretch_52 : decode cX3_stretch 52 = .ok (.aload_n 0, 1) := by decide +kernel
theorem dX3_stretch_53 : decode cX3_stretch 53 = .ok (.aload_n 0, 1) := by decide +kernel
theorem dX3_stretch_54 : decode cX3_stretch 54 = .ok (.getfield 53, 3) := by decide +kernel
theorem dX3_stretch_57 : decode cX3_stretch 57 = .ok (.aload_n 0, 1) := by decide +kernel
theorem dX3_stretch_58 : decode cX3_stretch 58 = .ok (.getfield 56, 3) := by decide +kernel
theorem dX3_stretch_61 : decode cX3_stretch 61 = .ok (.iload 4, 2) := by decide +kernel
theorem dX3_stretch_63 : decode cX3_stretch 63 = .ok (.invokevirtual 59, 3) := by decide +kernel
theorem dX3_stretch_66 : decode cX3_stretch 66 = .ok (.ifCond .ne 5, 3) := by decide +kernel
theorem dX3_stretch_69 : decode cX3_stretch 69 = .ok (.iload_n 3, 1) := by decide +kernel
theorem dX3_stretch_70 : decode cX3_stretch 70 = .ok (.ireturn, 1) := by decide +kernel
theorem dX3_stretch_71 : decode cX3_stretch 71 = .ok (.aload_n 0, 1) := by decide +kernel
theorem dX3_stretch_72 : decode cX3_stretch 72 = .ok (.iload 4, 2) := by decide +kernel
theorem dX3_stretch_74 : decode cX3_stretch 74 = .ok (.putfield 9, 3) := by decide +kernel
theorem dX3_stretch_77 : decode cX3_stretch 77 = .ok (.aload_n 0, 1) := by decide +kernel
theorem dX3_stretch_78 : decode cX3_stretch 78 = .ok (.invokevirtual 87, 3) := by decide +kernel
theorem dX3_stretch_81 : decode cX3_stretch 81 = .ok (.iinc 3 1, 3) := by decide +kernel
theorem dX3_stretch_84 : decode cX3_stretch 84 = .ok (.goto (-61), 3) := by decide +kernel
theorem dX3_stretch_87 : decode cX3_stretch 87 = .ok (.iload_n 1, 1) := by decide +kernel
theorem dX3_stretch_88 : decode cX3_stretch 88 = .ok (.ireturn, 1) := by decide +kernel
theorem dX3_ok_0 : decode cX3_ok 0 = .ok (.aload_n 0, 1) := by decide +kernel
theorem dX3_ok_1 : decode cX3_ok 1 = .ok (.iconst 0, 1) := by decide +kernel
theorem dX3_ok_2 : decode cX3_ok 2 = .ok (.putfield 26, 3) := by decide +kernel
theorem dX3_ok_5 : decode cX3_ok 5 = .ok (.iload_n 1, 1) := by decide +kernel
theorem dX3_ok_6 : decode cX3_ok 6 = .ok (.ireturn, 1) := by decide +kernel
set_option maxRecDepth 20000 in
theorem ggX3_direction_X3_ok : GoodIn wsX3_direction wsX3_ok := goodIn_r _ [6, 7, 8, 9, 10, 11, 12, 13, 14, 15, 16, 17, 18, 19, 20] (by decide +kernel) (by decide +kernel)
set_option maxRecDepth 20000 in
theorem gX3_direction_X3_ok : GoodIn wsX3_direction (wsV RX3 90 RX3 yX3_ok wsX3_ok) := goodIn_app (goodIn_of _ (by decide +kernel)) ggX3_direction_X3_ok
theorem dX3_direction_0 : decode cX3_direction 0 = .ok (.aload_n 0, 1) := by decide +kernel
theorem dX3_direction_1 : decode cX3_direction 1 = .ok (.aload_n 0, 1) := by decide +kernel
theorem dX3_direction_2 : decode cX3_direction 2 = .ok (.getfield 56, 3) := by decide +kernel
theorem dX3_direction_5 : decode cX3_direction 5 = .ok (.invokevirtual 90, 3) := by decide +kernel
theorem dX3_direction_8 : decode cX3_direction 8 = .ok (.ireturn, 1) := by decide +kernel
set_option maxRecDepth 20000 in
theorem ggX3_reach_X3_ok : GoodIn wsX3_reach wsX3_ok := goodIn_r _ [6, 7, 8, 9, 10, 11, 12, 13, 14, 15, 16, 17, 18, 19, 20] (by decide +kernel) (by decide +kernel)
set_option maxRecDepth 20000 in
theorem gX3_reach_X3_ok : GoodIn wsX3_reach (wsV RX3 90 RX3 yX3_ok wsX3_ok) := goodIn_app (goodIn_of _ (by decide +kernel)) ggX3_reach_X3_ok
theorem dX3_reach_0 : decode cX3_reach 0 = .ok (.aload_n 0, 1) := by decide +kernel
theorem dX3_reach_1 : decode cX3_reach 1 = .ok (.aload_n 0, 1) := by decide +kernel
theorem dX3_reach_2 : decode cX3_reach 2 = .ok (.getfield 9, 3) := by decide +kernel
theorem dX3_reach_5 : decode cX3_reach 5 = .ok (.invokevirtual 90, 3) := by decide +kernel
theorem dX3_reach_8 : decode cX3_reach 8 = .ok (.ireturn, 1) := by decide +kernel
set_option maxRecDepth 20000 in
theorem ggX3_load_X3_ok : GoodIn wsX3_load wsX3_ok := goodIn_r _ [6, 7, 8, 9, 10, 11, 12, 13, 14, 15, 16, 17, 18, 19, 20] (by decide +kernel) (by decide +kernel)
set_option maxRecDepth 20000 in
theorem gX3_load_X3_ok : GoodIn wsX3_load (wsV RX3 90 RX3 yX3_ok wsX3_ok) := goodIn_app (goodIn_of _ (by decide +kernel)) ggX3_load_X3_ok
theorem dX3_load_0 : decode cX3_load 0 = .ok (.aload_n 0, 1) := by decide +kernel
theorem dX3_load_1 : decode cX3_load 1 = .ok (.aload_n 0, 1) := by decide +kernel
theorem dX3_load_2 : decode cX3_load 2 = .ok (.getfield 53, 3) := by decide +kernel
theorem dX3_load_5 : decode cX3_load 5 = .ok (.invokevirtual 90, 3) := by decide +kernel
theorem dX3_load_8 : decode cX3_load 8 = .ok (.ireturn, 1) := by decide +kernel
set_option maxRecDepth 20000 in
theorem ggX3_plates_X3_ok : GoodIn wsX3_plates wsX3_ok := goodIn_r _ [6, 7, 8, 9, 10, 11, 12, 13, 14, 15, 16, 17, 18, 19, 20] (by decide +kernel) (by decide +kernel)
set_option maxRecDepth 20000 in
theorem gX3_plates_X3_ok : GoodIn wsX3_plates (wsV RX3 90 RX3 yX3_ok wsX3_ok) := goodIn_app (goodIn_of _ (by decide +kernel)) ggX3_plates_X3_ok
theorem dX3_plates_0 : decode cX3_plates 0 = .ok (.aload_n 0, 1) := by decide +kernel
theorem dX3_plates_1 : decode cX3_plates 1 = .ok (.aload_n 0, 1) := by decide +kernel
theorem dX3_plates_2 : decode cX3_plates 2 = .ok (.getfield 46, 3) := by decide +kernel
theorem dX3_plates_5 : decode cX3_plates 5 = .ok (.invokevirtual 90, 3) := by decide +kernel
theorem dX3_plates_8 : decode cX3_plates 8 = .ok (.ireturn, 1) := by decide +kernel
set_option maxRecDepth 20000 in
theorem ggX3_outrigger_X3_isSide : GoodIn wsX3_outrigger wsX3_isSide := goodIn_r _ [6, 7, 8, 5, 9] (by decide +kernel) (by decide +kernel)
set_option maxRecDepth 20000 in
theorem gX3_outrigger_X3_isSide : GoodIn wsX3_outrigger (va_wsS RX3 68 yX3_isSide wsX3_isSide) := goodIn_app (goodIn_of _ (by decide +kernel)) ggX3_outrigger_X3_isSide
set_option maxRecDepth 20000 in
theorem ggX3_outrigger_X3_no : GoodIn wsX3_outrigger wsX3_no := goodIn_r _ [13, 1, 14, 15, 16, 17, 18, 19, 20, 21, 22, 23, 24, 25, 26] (by decide +kernel) (by decide +kernel)
set_option maxRecDepth 20000 in
theorem gX3_outrigger_X3_no : GoodIn wsX3_outrigger (wsV RX3 62 RX3 yX3_no wsX3_no) := goodIn_app (goodIn_of _ (by decide +kernel)) ggX3_outrigger_X3_no
theorem dX3_outrigger_0 : decode cX3_outrigger 0 = .ok (.aload_n 0, 1) := by decide +kernel
theorem dX3_outrigger_1 : decode cX3_outrigger 1 = .ok (.iconst 0, 1) := by decide +kernel
theorem dX3_outrigger_2 : decode cX3_outrigger 2 = .ok (.putfield 26, 3) := by decide +kernel
theorem dX3_outrigger_5 : decode cX3_outrigger 5 = .ok (.iload_n 1, 1) := by decide +kernel
theorem dX3_outrigger_6 : decode cX3_outrigger 6 = .ok (.invokestatic 68, 3) := by decide +kernel
theorem dX3_outrigger_9 : decode cX3_outrigger 9 = .ok (.ifCond .eq 12, 3) := by decide +kernel
theorem dX3_outrigger_12 : decode cX3_outrigger 12 = .ok (.aload_n 0, 1) := by decide +kernel
theorem dX3_outrigger_13 : decode cX3_outrigger 13 = .ok (.getfield 13, 3) := by decide +kernel
theorem dX3_outrigger_16 : decode cX3_outrigger 16 = .ok (.iload_n 1, 1) := by decide +kernel
theorem dX3_outrigger_17 : decode cX3_outrigger 17 = .ok (.iaload, 1) := by decide +kernel
theorem dX3_outrigger_18 : decode cX3_outrigger 18 = .ok (.goto 8, 3) := by decide +kernel
theorem dX3_outrigger_21 : decode cX3_outrigger 21 = .ok (.aload_n 0, 1) := by decide +kernel
theorem dX3_outrigger_22 : decode cX3_outrigger 22 = .ok (.iconst 1, 1) := by decide +kernel
theorem dX3_outrigger_23 : decode cX3_outrigger 23 = .ok (.invokevirtual 62, 3) := by decide +kernel
theorem dX3_outrigger_26 : decode cX3_outrigger 26 = .ok (.ireturn, 1) := by decide +kernel
set_option maxRecDepth 20000 in
theorem ggX3_limitAt_X3_isReach : GoodIn wsX3_limitAt wsX3_isReach := goodIn_r _ [6, 7, 8, 5, 9] (by decide +kernel) (by decide +kernel)
set_option maxRecDepth 20000 in
theorem gX3_limitAt_X3_isReach : GoodIn wsX3_limitAt (va_wsS RX3 72 yX3_isReach wsX3_isReach) := goodIn_app (goodIn_of _ (by decide +kernel)) ggX3_limitAt_X3_isReach
set_option maxRecDepth 20000 in
theorem ggX3_limitAt_X3_no : GoodIn wsX3_limitAt wsX3_no := goodIn_r _ [13, 1, 14, 15, 16, 17, 18, 19, 20, 21, 22, 23, 24, 25, 26] (by decide +kernel) (by decide +kernel)
set_option maxRecDepth 20000 in
theorem gX3_limitAt_X3_no : GoodIn wsX3_limitAt (wsV RX3 62 RX3 yX3_no wsX3_no) := goodIn_app (goodIn_of _ (by decide +kernel)) ggX3_limitAt_X3_no
theorem dX3_limitAt_0 : decode cX3_limitAt 0 = .ok (.aload_n 0, 1) := by decide +kernel
theorem dX3_limitAt_1 : decode cX3_limitAt 1 = .ok (.iconst 0, 1) := by decide +kernel
theorem dX3_limitAt_2 : decode cX3_limitAt 2 = .ok (.putfield 26, 3) := by decide +kernel
theorem dX3_limitAt_5 : decode cX3_limitAt 5 = .ok (.iload_n 1, 1) := by decide +kernel
theorem dX3_limitAt_6 : decode cX3_limitAt 6 = .ok (.invokestatic 72, 3) := by decide +kernel
theorem dX3_limitAt_9 : decode cX3_limitAt 9 = .ok (.ifCond .eq 12, 3) := by decide +kernel
theorem dX3_limitAt_12 : decode cX3_limitAt 12 = .ok (.aload_n 0, 1) := by decide +kernel
theorem dX3_limitAt_13 : decode cX3_limitAt 13 = .ok (.getfield 17, 3) := by decide +kernel
theorem dX3_limitAt_16 : decode cX3_limitAt 16 = .ok (.iload_n 1, 1) := by decide +kernel
theorem dX3_limitAt_17 : decode cX3_limitAt 17 = .ok (.iaload, 1) := by decide +kernel
theorem dX3_limitAt_18 : decode cX3_limitAt 18 = .ok (.goto 8, 3) := by decide +kernel
theorem dX3_limitAt_21 : decode cX3_limitAt 21 = .ok (.aload_n 0, 1) := by decide +kernel
theorem dX3_limitAt_22 : decode cX3_limitAt 22 = .ok (.iconst 1, 1) := by decide +kernel
theorem dX3_limitAt_23 : decode cX3_limitAt 23 = .ok (.invokevirtual 62, 3) := by decide +kernel
theorem dX3_limitAt_26 : decode cX3_limitAt 26 = .ok (.ireturn, 1) := by decide +kernel
set_option maxRecDepth 20000 in
theorem ggX3_strainNow_X3_strain : GoodIn wsX3_strainNow wsX3_strain := goodIn_r _ [8, 9, 10, 11, 12, 13, 14, 15, 16, 17, 18, 19, 20, 21, 22, 23, 24, 25, 26, 27, 28, 29, 30, 31] (by decide +kernel) (by decide +kernel)
set_option maxRecDepth 20000 in
theorem gX3_strainNow_X3_strain : GoodIn wsX3_strainNow (wsV RX3 49 RX3 yX3_strain wsX3_strain) := goodIn_app (goodIn_of _ (by decide +kernel)) ggX3_strainNow_X3_strain
theorem dX3_strainNow_0 : decode cX3_strainNow 0 = .ok (.aload_n 0, 1) := by decide +kernel
theorem dX3_strainNow_1 : decode cX3_strainNow 1 = .ok (.iload_n 1, 1) := by decide +kernel
theorem dX3_strainNow_2 : decode cX3_strainNow 2 = .ok (.aload_n 0, 1) := by decide +kernel
theorem dX3_strainNow_3 : decode cX3_strainNow 3 = .ok (.getfield 53, 3) := by decide +kernel
theorem dX3_strainNow_6 : decode cX3_strainNow 6 = .ok (.aload_n 0, 1) := by decide +kernel
theorem dX3_strainNow_7 : decode cX3_strainNow 7 = .ok (.getfield 56, 3) := by decide +kernel
theorem dX3_strainNow_10 : decode cX3_strainNow 10 = .ok (.aload_n 0, 1) := by decide +kernel
theorem dX3_strainNow_11 : decode cX3_strainNow 11 = .ok (.getfield 9, 3) := by decide +kernel
theorem dX3_strainNow_14 : decode cX3_strainNow 14 = .ok (.invokevirtual 49, 3) := by decide +kernel
theorem dX3_strainNow_17 : decode cX3_strainNow 17 = .ok (.ireturn, 1) := by decide +kernel
set_option maxRecDepth 20000 in
theorem ggX3_strainOn_X3_isSide : GoodIn wsX3_strainOn wsX3_isSide := goodIn_r _ [5, 6, 7, 4, 8] (by decide +kernel) (by decide +kernel)
set_option maxRecDepth 20000 in
theorem gX3_strainOn_X3_isSide : GoodIn wsX3_strainOn (va_wsS RX3 68 yX3_isSide wsX3_isSide) := goodIn_app (goodIn_of _ (by decide +kernel)) ggX3_strainOn_X3_isSide
set_option maxRecDepth 20000 in
theorem ggX3_strainOn_X3_strainNow : GoodIn wsX3_strainOn wsX3_strainNow := goodIn_r _ [12, 13, 14, 15, 16, 17, 18, 4, 19, 20, 21, 22, 23, 24, 25, 26, 27, 28, 29, 34, 35, 36, 37, 38, 39, 40, 41, 42, 43, 44, 45, 46] (by decide +kernel) (by decide +kernel)
set_option maxRecDepth 20000 in
theorem gX3_strainOn_X3_strainNow : GoodIn wsX3_strainOn (wsV RX3 93 RX3 yX3_strainNow wsX3_strainNow) := goodIn_app (goodIn_of _ (by decide +kernel)) ggX3_strainOn_X3_strainNow
set_option maxRecDepth 20000 in
theorem ggX3_strainOn_X3_no : GoodIn wsX3_strainOn wsX3_no := goodIn_r _ [33, 1, 34, 35, 36, 37, 38, 39, 40, 41, 42, 43, 44, 45, 46] (by decide +kernel) (by decide +kernel)
set_option maxRecDepth 20000 in
theorem gX3_strainOn_X3_no : GoodIn wsX3_strainOn (wsV RX3 62 RX3 yX3_no wsX3_no) := goodIn_app (goodIn_of _ (by decide +kernel)) ggX3_strainOn_X3_no
theorem dX3_strainOn_0 : decode cX3_strainOn 0 = .ok (.aload_n 0, 1) := by decide +kernel
theorem dX3_strainOn_1 : decode cX3_strainOn 1 = .ok (.iconst 0, 1) := by decide +kernel
theorem dX3_strainOn_2 : decode cX3_strainOn 2 = .ok (.putfield 26, 3) := by decide +kernel
theorem dX3_strainOn_5 : decode cX3_strainOn 5 = .ok (.iload_n 1, 1) := by decide +kernel
theorem dX3_strainOn_6 : decode cX3_strainOn 6 = .ok (.invokestatic 68, 3) := by decide +kernel
theorem dX3_strainOn_9 : decode cX3_strainOn 9 = .ok (.ifCond .eq 11, 3) := by decide +kernel
theorem dX3_strainOn_12 : decode cX3_strainOn 12 = .ok (.aload_n 0, 1) := by decide +kernel
theorem dX3_strainOn_13 : decode cX3_strainOn 13 = .ok (.iload_n 1, 1) := by decide +kernel
theorem dX3_strainOn_14 : decode cX3_strainOn 14 = .ok (.invokevirtual 93, 3) := by decide +kernel
theorem dX3_strainOn_17 : decode cX3_strainOn 17 = .ok (.goto 8, 3) := by decide +kernel
theorem dX3_strainOn_20 : decode cX3_strainOn 20 = .ok (.aload_n 0, 1) := by decide +kernel
theorem dX3_strainOn_21 : decode cX3_strainOn 21 = .ok (.iconst 1, 1) := by decide +kernel
theorem dX3_strainOn_22 : decode cX3_strainOn 22 = .ok (.invokevirtual 62, 3) := by decide +kernel
theorem dX3_strainOn_25 : decode cX3_strainOn 25 = .ok (.ireturn, 1) := by decide +kernel
set_option maxRecDepth 20000 in
theorem ggX3_weakest_X3_strainNow : GoodIn wsX3_weakest wsX3_strainNow := goodIn_r _ [5, 6, 7, 8, 9, 10, 11, 4, 12, 13, 14, 15, 16, 17, 18, 19, 20, 21, 22, 23, 24, 25, 26, 27, 28, 29, 30, 31, 32, 33, 34, 35] (by decide +kernel) (by decide +kernel)
set_option maxRecDepth 20000 in
theorem gX3_weakest_X3_strainNow : GoodIn wsX3_weakest (wsV RX3 93 RX3 yX3_strainNow wsX3_strainNow) := goodIn_app (goodIn_of _ (by decide +kernel)) ggX3_weakest_X3_strainNow
theorem dX3_weakest_0 : decode cX3_weakest 0 = .ok (.iconst 0, 1) := by decide +kernel
theorem dX3_weakest_1 : decode cX3_weakest 1 = .ok (.istore_n 1, 1) := by decide +kernel
theorem dX3_weakest_2 : decode cX3_weakest 2 = .ok (.iconst 1, 1) := by decide +kernel
theorem dX3_weakest_3 : decode cX3_weakest 3 = .ok (.istore_n 2, 1) := by decide +kernel
theorem dX3_weakest_4 : decode cX3_weakest 4 = .ok (.iload_n 2, 1) := by decide +kernel
theorem dX3_weakest_5 : decode cX3_weakest 5 = .ok (.iconst 4, 1) := by decide +kernel
theorem dX3_weakest_6 : decode cX3_weakest 6 = .ok (.if_icmp .ge 24, 3) := by decide +kernel
theorem dX3_weakest_9 : decode cX3_weakest 9 = .ok (.aload_n 0, 1) := by decide +kernel
theorem dX3_weakest_10 : decode cX3_weakest 10 = .ok (.iload_n 2, 1) := by decide +kernel
theorem dX3_weakest_11 : decode cX3_weakest 11 = .ok (.invokevirtual 93, 3) := by decide +kernel
theorem dX3_weakest_14 : decode cX3_weakest 14 = .ok (.aload_n 0, 1) := by decide +kernel
theorem dX3_weakest_15 : decode cX3_weakest 15 = .ok (.iload_n 1, 1) := by decide +kernel
theorem dX3_weakest_16 : decode cX3_weakest 16 = .ok (.invokevirtual 93, 3) := by decide +kernel
theorem dX3_weakest_19 : decode cX3_weakest 19 = .ok (.if_icmp .le 5, 3) := by decide +kernel
theorem dX3_weakest_22 : decode cX3_weakest 22 = .ok (.iload_n 2, 1) := by decide +kernel
theorem dX3_weakest_23 : decode cX3_weakest 23 = .ok (.istore_n 1, 1) := by decide +kernel
theorem dX3_weakest_24 : decode cX3_weakest 24 = .ok (.iinc 2 1, 3) := by decide +kernel
theorem dX3_weakest_27 : decode cX3_weakest 27 = .ok (.goto (-23), 3) := by decide +kernel
theorem dX3_weakest_30 : decode cX3_weakest 30 = .ok (.iload_n 1, 1) := by decide +kernel
theorem dX3_weakest_31 : decode cX3_weakest 31 = .ok (.ireturn, 1) := by decide +kernel
set_option maxRecDepth 20000 in
theorem ggX3_weakestSide_X3_weakest : GoodIn wsX3_weakestSide wsX3_weakest := goodIn_r _ [5, 6, 7, 8, 4, 9, 10, 11, 12, 13, 14, 15, 16, 17, 18, 19, 20, 21, 22, 23, 24, 25, 26, 32, 33, 34, 35, 36, 37, 38, 39, 40, 41, 42, 43, 44] (by decide +kernel) (by decide +kernel)
set_option maxRecDepth 20000 in
theorem gX3_weakestSide_X3_weakest : GoodIn wsX3_weakestSide (wsV RX3 96 RX3 yX3_weakest wsX3_weakest) := goodIn_app (goodIn_of _ (by decide +kernel)) ggX3_weakestSide_X3_weakest
set_option maxRecDepth 20000 in
theorem ggX3_weakestSide_X3_ok : GoodIn wsX3_weakestSide wsX3_ok := goodIn_r _ [30, 31, 32, 33, 34, 35, 36, 37, 38, 39, 40, 41, 42, 43, 44] (by decide +kernel) (by decide +kernel)
set_option maxRecDepth 20000 in
theorem gX3_weakestSide_X3_ok : GoodIn wsX3_weakestSide (wsV RX3 90 RX3 yX3_ok wsX3_ok) := goodIn_app (goodIn_of _ (by decide +kernel)) ggX3_weakestSide_X3_ok
theorem dX3_weakestSide_0 : decode cX3_weakestSide 0 = .ok (.aload_n 0, 1) := by decide +kernel
theorem dX3_weakestSide_1 : decode cX3_weakestSide 1 = .ok (.aload_n 0, 1) := by decide +kernel
theorem dX3_weakestSide_2 : decode cX3_weakestSide 2 = .ok (.invokevirtual 96, 3) := by decide +kernel
theorem dX3_weakestSide_5 : decode cX3_weakestSide 5 = .ok (.invokevirtual 90, 3) := by decide +kernel
theorem dX3_weakestSide_8 : decode cX3_weakestSide 8 = .ok (.ireturn, 1) := by decide +kernel
set_option maxRecDepth 20000 in
theorem ggX3_lifts_X3_ok : GoodIn wsX3_lifts wsX3_ok := goodIn_r _ [6, 7, 8, 9, 10, 11, 12, 13, 14, 15, 16, 17, 18, 19, 20] (by decide +kernel) (by decide +kernel)
set_option maxRecDepth 20000 in
theorem gX3_lifts_X3_ok : GoodIn wsX3_lifts (wsV RX3 90 RX3 yX3_ok wsX3_ok) := goodIn_app (goodIn_of _ (by decide +kernel)) ggX3_lifts_X3_ok
theorem dX3_lifts_0 : decode cX3_lifts 0 = .ok (.aload_n 0, 1) := by decide +kernel
theorem dX3_lifts_1 : decode cX3_lifts 1 = .ok (.aload_n 0, 1) := by decide +kernel
theorem dX3_lifts_2 : decode cX3_lifts 2 = .ok (.getfield 78, 3) := by decide +kernel
theorem dX3_lifts_5 : decode cX3_lifts 5 = .ok (.invokevirtual 90, 3) := by decide +kernel
theorem dX3_lifts_8 : decode cX3_lifts 8 = .ok (.ireturn, 1) := by decide +kernel
set_option maxRecDepth 20000 in
theorem ggX3_tonsLifted_X3_ok : GoodIn wsX3_tonsLifted wsX3_ok := goodIn_r _ [6, 7, 8, 9, 10, 11, 12, 13, 14, 15, 16, 17, 18, 19, 20] (by decide +kernel) (by decide +kernel)
set_option maxRecDepth 20000 in
theorem gX3_tonsLifted_X3_ok : GoodIn wsX3_tonsLifted (wsV RX3 90 RX3 yX3_ok wsX3_ok) := goodIn_app (goodIn_of _ (by decide +kernel)) ggX3_tonsLifted_X3_ok
theorem dX3_tonsLifted_0 : decode cX3_tonsLifted 0 = .ok (.aload_n 0, 1) := by decide +kernel
theorem dX3_tonsLifted_1 : decode cX3_tonsLifted 1 = .ok (.aload_n 0, 1) := by decide +kernel
theorem dX3_tonsLifted_2 : decode cX3_tonsLifted 2 = .ok (.getfield 81, 3) := by decide +kernel
theorem dX3_tonsLifted_5 : decode cX3_tonsLifted 5 = .ok (.invokevirtual 90, 3) := by decide +kernel
theorem dX3_tonsLifted_8 : decode cX3_tonsLifted 8 = .ok (.ireturn, 1) := by decide +kernel
set_option maxRecDepth 20000 in
theorem ggX3_movesWithLoad_X3_ok : GoodIn wsX3_movesWithLoad wsX3_ok := goodIn_r _ [6, 7, 8, 9, 10, 11, 12, 13, 14, 15, 16, 17, 18, 19, 20] (by decide +kernel) (by decide +kernel)
set_option maxRecDepth 20000 in
theorem gX3_movesWithLoad_X3_ok : GoodIn wsX3_movesWithLoad (wsV RX3 90 RX3 yX3_ok wsX3_ok) := goodIn_app (goodIn_of _ (by decide +kernel)) ggX3_movesWithLoad_X3_ok
theorem dX3_movesWithLoad_0 : decode cX3_movesWithLoad 0 = .ok (.aload_n 0, 1) := by decide +kernel
theorem dX3_movesWithLoad_1 : decode cX3_movesWithLoad 1 = .ok (.aload_n 0, 1) := by decide +kernel
theorem dX3_movesWithLoad_2 : decode cX3_movesWithLoad 2 = .ok (.getfield 84, 3) := by decide +kernel
theorem dX3_movesWithLoad_5 : decode cX3_movesWithLoad 5 = .ok (.invokevirtual 90, 3) := by decide +kernel
theorem dX3_movesWithLoad_8 : decode cX3_movesWithLoad 8 = .ok (.ireturn, 1) := by decide +kernel
set_option maxRecDepth 20000 in
theorem ggX3_isSafeWith_X3_isDirection : GoodIn wsX3_isSafeWith wsX3_isDirection := goodIn_r _ [5, 6, 7, 4, 8] (by decide +kernel) (by decide +kernel)
set_option maxRecDepth 20000 in
theorem gX3_isSafeWith_X3_isDirection : GoodIn wsX3_isSafeWith (va_wsS RX3 100 yX3_isDirection wsX3_isDirection) := goodIn_app (goodIn_of _ (by decide +kernel)) ggX3_isSafeWith_X3_isDirection
set_option maxRecDepth 20000 in
theorem ggX3_isSafeWith_X3_isNot : GoodIn wsX3_isSafeWith wsX3_isNot := goodIn_r _ [12, 1, 38, 39, 40, 41, 42, 43, 44, 45, 46, 47, 48, 49, 50] (by decide +kernel) (by decide +kernel)
set_option maxRecDepth 20000 in
theorem gX3_isSafeWith_X3_isNot : GoodIn wsX3_isSafeWith (wsV RX3 103 RX3 yX3_isNot wsX3_isNot) := goodIn_app (goodIn_of _ (by decide +kernel)) ggX3_isSafeWith_X3_isNot
set_option maxRecDepth 20000 in
theorem ggX3_isSafeWith_X3_isLoad : GoodIn wsX3_isSafeWith wsX3_isLoad := goodIn_r _ [15, 6, 7, 4, 8] (by decide +kernel) (by decide +kernel)
set_option maxRecDepth 20000 in
theorem gX3_isSafeWith_X3_isLoad : GoodIn wsX3_isSafeWith (va_wsS RX3 75 yX3_isLoad wsX3_isLoad) := goodIn_app (goodIn_of _ (by decide +kernel)) ggX3_isSafeWith_X3_isLoad
set_option maxRecDepth 20000 in
theorem ggX3_isSafeWith_X3_isReach : GoodIn wsX3_isSafeWith wsX3_isReach := goodIn_r _ [18, 6, 7, 4, 8] (by decide +kernel) (by decide +kernel)
set_option maxRecDepth 20000 in
theorem gX3_isSafeWith_X3_isReach : GoodIn wsX3_isSafeWith (va_wsS RX3 72 yX3_isReach wsX3_isReach) := goodIn_app (goodIn_of _ (by decide +kernel)) ggX3_isSafeWith_X3_isReach
set_option maxRecDepth 20000 in
theorem ggX3_isSafeWith_X3_isSafe : GoodIn wsX3_isSafeWith wsX3_isSafe := goodIn_r _ [22, 23, 24, 25, 26, 4, 27, 28, 29, 30, 31, 32, 33, 34, 35, 36, 37, 38, 39, 40, 41, 42, 43, 44, 45, 46, 47, 48, 49, 50] (by decide +kernel) (by decide +kernel)
set_option maxRecDepth 20000 in
theorem gX3_isSafeWith_X3_isSafe : GoodIn wsX3_isSafeWith (wsV RX3 59 RX3 yX3_isSafe wsX3_isSafe) := goodIn_app (goodIn_of _ (by decide +kernel)) ggX3_isSafeWith_X3_isSafe
theorem dX3_isSafeWith_0 : decode cX3_isSafeWith 0 = .ok (.aload_n 0, 1) := by decide +kernel
theorem dX3_isSafeWith_1 : decode cX3_isSafeWith 1 = .ok (.iconst 0, 1) := by decide +kernel
theorem dX3_isSafeWith_2 : decode cX3_isSafeWith 2 = .ok (.putfield 26, 3) := by decide +kernel
theorem dX3_isSafeWith_5 : decode cX3_isSafeWith 5 = .ok (.iload_n 2, 1) := by decide +kernel
theorem dX3_isSafeWith_6 : decode cX3_isSafeWith 6 = .ok (.invokestatic 100, 3) := by decide +kernel
theorem dX3_isSafeWith_9 : decode cX3_isSafeWith 9 = .ok (.ifCond .ne 9, 3) := by decide +kernel
theorem dX3_isSafeWith_12 : decode cX3_isSafeWith 12 = .ok (.aload_n 0, 1) := by decide +kernel
theorem dX3_isSafeWith_13 : decode cX3_isSafeWith 13 = .ok (.iconst 1, 1) := by decide +kernel
theorem dX3_isSafeWith_14 : decode cX3_isSafeWith 14 = .ok (.invokevirtual 103, 3) := by decide +kernel
theorem dX3_isSafeWith_17 : decode cX3_isSafeWith 17 = .ok (.ireturn, 1) := by decide +kernel
theorem dX3_isSafeWith_18 : decode cX3_isSafeWith 18 = .ok (.iload_n 1, 1) := by decide +kernel
theorem dX3_isSafeWith_19 : decode cX3_isSafeWith 19 = .ok (.invokestatic 75, 3) := by decide +kernel
theorem dX3_isSafeWith_22 : decode cX3_isSafeWith 22 = .ok (.ifCond .eq 20, 3) := by decide +kernel
theorem dX3_isSafeWith_25 : decode cX3_isSafeWith 25 = .ok (.iload_n 3, 1) := by decide +kernel
theorem dX3_isSafeWith_26 : decode cX3_isSafeWith 26 = .ok (.invokestatic 72, 3) := by decide +kernel
theorem dX3_isSafeWith_29 : decode cX3_isSafeWith 29 = .ok (.ifCond .eq 13, 3) := by decide +kernel
theorem dX3_isSafeWith_32 : decode cX3_isSafeWith 32 = .ok (.aload_n 0, 1) := by decide +kernel
theorem dX3_isSafeWith_33 : decode cX3_isSafeWith 33 = .ok (.iload_n 1, 1) := by decide +kernel
theorem dX3_isSafeWith_34 : decode cX3_isSafeWith 34 = .ok (.iload_n 2, 1) := by decide +kernel
theorem dX3_isSafeWith_35 : decode cX3_isSafeWith 35 = .ok (.iload_n 3, 1) := by decide +kernel
theorem dX3_isSafeWith_36 : decode cX3_isSafeWith 36 = .ok (.invokevirtual 59, 3) := by decide +kernel
theorem dX3_isSafeWith_39 : decode cX3_isSafeWith 39 = .ok (.goto 8, 3) := by decide +kernel
theorem dX3_isSafeWith_42 : decode cX3_isSafeWith 42 = .ok (.aload_n 0, 1) := by decide +kernel
theorem dX3_isSafeWith_43 : decode cX3_isSafeWith 43 = .ok (.iconst 2, 1) := by decide +kernel
theorem dX3_isSafeWith_44 : decode cX3_isSafeWith 44 = .ok (.invokevirtual 103, 3) := by decide +kernel
theorem dX3_isSafeWith_47 : decode cX3_isSafeWith 47 = .ok (.ireturn, 1) := by decide +kernel
set_option maxRecDepth 20000 in
theorem ggX3_greatest_X3_isSafe : GoodIn wsX3_greatest wsX3_isSafe := goodIn_r _ [7, 8, 9, 10, 11, 6, 12, 13, 14, 15, 16, 17, 18, 19, 20, 21, 22, 23, 24, 25, 26, 27, 28, 29, 30, 31, 32, 33, 34, 35] (by decide +kernel) (by decide +kernel)
set_option maxRecDepth 20000 in
theorem gX3_greatest_X3_isSafe : GoodIn wsX3_greatest (wsV RX3 59 RX3 yX3_isSafe wsX3_isSafe) := goodIn_app (goodIn_of _ (by decide +kernel)) ggX3_greatest_X3_isSafe
theorem dX3_greatest_0 : decode cX3_greatest 0 = .ok (.bipush 60, 2) := by decide +kernel
theorem dX3_greatest_2 : decode cX3_greatest 2 = .ok (.istore_n 1, 1) := by decide +kernel
theorem dX3_greatest_3 : decode cX3_greatest 3 = .ok (.aload_n 0, 1) := by decide +kernel
theorem dX3_greatest_4 : decode cX3_greatest 4 = .ok (.iload_n 1, 1) := by decide +kernel
theorem dX3_greatest_5 : decode cX3_greatest 5 = .ok (.aload_n 0, 1) := by decide +kernel
theorem dX3_greatest_6 : decode cX3_greatest 6 = .ok (.getfield 56, 3) := by decide +kernel
theorem dX3_greatest_9 : decode cX3_greatest 9 = .ok (.aload_n 0, 1) := by decide +kernel
theorem dX3_greatest_10 : decode cX3_greatest 10 = .ok (.getfield 9, 3) := by decide +kernel
theorem dX3_greatest_13 : decode cX3_greatest 13 = .ok (.invokevirtual 59, 3) := by decide +kernel
theorem dX3_greatest_16 : decode cX3_greatest 16 = .ok (.ifCond .ne 9, 3) := by decide +kernel
theorem dX3_greatest_19 : decode cX3_greatest 19 = .ok (.iinc 1 (-1), 3) := by decide +kernel
theorem dX3_greatest_22 : decode cX3_greatest 22 = .ok (.goto (-19), 3) := by decide +kernel
theorem dX3_greatest_25 : decode cX3_greatest 25 = .ok (.iload_n 1, 1) := by decide +kernel
theorem dX3_greatest_26 : decode cX3_greatest 26 = .ok (.ireturn, 1) := by decide +kernel
set_option maxRecDepth 20000 in
theorem ggX3_greatestLoad_X3_greatest : GoodIn wsX3_greatestLoad wsX3_greatest := goodIn_r _ [5, 6, 7, 8, 9, 10, 4, 11, 12, 13, 14, 15, 16, 17, 18, 19, 20, 21, 22, 23, 24, 25, 26, 32, 33, 34, 35, 36, 37, 38, 39, 40, 41, 42, 43, 44] (by decide +kernel) (by decide +kernel)
set_option maxRecDepth 20000 in
theorem gX3_greatestLoad_X3_greatest : GoodIn wsX3_greatestLoad (wsV RX3 106 RX3 yX3_greatest wsX3_greatest) := goodIn_app (goodIn_of _ (by decide +kernel)) ggX3_greatestLoad_X3_greatest
set_option maxRecDepth 20000 in
theorem ggX3_greatestLoad_X3_ok : GoodIn wsX3_greatestLoad wsX3_ok := goodIn_r _ [30, 31, 32, 33, 34, 35, 36, 37, 38, 39, 40, 41, 42, 43, 44] (by decide +kernel) (by decide +kernel)
set_option maxRecDepth 20000 in
theorem gX3_greatestLoad_X3_ok : GoodIn wsX3_greatestLoad (wsV RX3 90 RX3 yX3_ok wsX3_ok) := goodIn_app (goodIn_of _ (by decide +kernel)) ggX3_greatestLoad_X3_ok
theorem dX3_greatestLoad_0 : decode cX3_greatestLoad 0 = .ok (.aload_n 0, 1) := by decide +kernel
theorem dX3_greatestLoad_1 : decode cX3_greatestLoad 1 = .ok (.aload_n 0, 1) := by decide +kernel
theorem dX3_greatestLoad_2 : decode cX3_greatestLoad 2 = .ok (.invokevirtual 106, 3) := by decide +kernel
theorem dX3_greatestLoad_5 : decode cX3_greatestLoad 5 = .ok (.invokevirtual 90, 3) := by decide +kernel
theorem dX3_greatestLoad_8 : decode cX3_greatestLoad 8 = .ok (.ireturn, 1) := by decide +kernel
set_option maxRecDepth 20000 in
theorem ggX3_farthestReach_X3_isDirection : GoodIn wsX3_farthestReach wsX3_isDirection := goodIn_r _ [5, 6, 7, 4, 8] (by decide +kernel) (by decide +kernel)
set_option maxRecDepth 20000 in
theorem gX3_farthestReach_X3_isDirection : GoodIn wsX3_farthestReach (va_wsS RX3 100 yX3_isDirection wsX3_isDirection) := goodIn_app (goodIn_of _ (by decide +kernel)) ggX3_farthestReach_X3_isDirection
set_option maxRecDepth 20000 in
theorem ggX3_farthestReach_X3_no : GoodIn wsX3_farthestReach wsX3_no := goodIn_r _ [12, 1, 35, 36, 37, 38, 39, 40, 41, 42, 43, 44, 45, 46, 47] (by decide +kernel) (by decide +kernel)
set_option maxRecDepth 20000 in
theorem gX3_farthestReach_X3_no : GoodIn wsX3_farthestReach (wsV RX3 62 RX3 yX3_no wsX3_no) := goodIn_app (goodIn_of _ (by decide +kernel)) ggX3_farthestReach_X3_no
set_option maxRecDepth 20000 in
theorem ggX3_farthestReach_X3_isLoad : GoodIn wsX3_farthestReach wsX3_isLoad := goodIn_r _ [15, 6, 7, 4, 8] (by decide +kernel) (by decide +kernel)
set_option maxRecDepth 20000 in
theorem gX3_farthestReach_X3_isLoad : GoodIn wsX3_farthestReach (va_wsS RX3 75 yX3_isLoad wsX3_isLoad) := goodIn_app (goodIn_of _ (by decide +kernel)) ggX3_farthestReach_X3_isLoad
set_option maxRecDepth 20000 in
theorem ggX3_farthestReach_X3_isSafe : GoodIn wsX3_farthestReach wsX3_isSafe := goodIn_r _ [19, 20, 21, 22, 23, 4, 24, 25, 26, 27, 28, 29, 30, 31, 32, 33, 34, 35, 36, 37, 38, 39, 40, 41, 42, 43, 44, 45, 46, 47] (by decide +kernel) (by decide +kernel)
set_option maxRecDepth 20000 in
theorem gX3_farthestReach_X3_isSafe : GoodIn wsX3_farthestReach (wsV RX3 59 RX3 yX3_isSafe wsX3_isSafe) := goodIn_app (goodIn_of _ (by decide +kernel)) ggX3_farthestReach_X3_isSafe
theorem dX3_farthestReach_0 : decode cX3_farthestReach 0 = .ok (.aload_n 0, 1) := by decide +kernel
theorem dX3_farthestReach_1 : decode cX3_farthestReach 1 = .ok (.iconst 0, 1) := by decide +kernel
theorem dX3_farthestReach_2 : decode cX3_farthestReach 2 = .ok (.putfield 26, 3) := by decide +kernel
theorem dX3_farthestReach_5 : decode cX3_farthestReach 5 = .ok (.iload_n 2, 1) := by decide +kernel
theorem dX3_farthestReach_6 : decode cX3_farthestReach 6 = .ok (.invokestatic 100, 3) := by decide +kernel
theorem dX3_farthestReach_9 : decode cX3_farthestReach 9 = .ok (.ifCond .ne 9, 3) := by decide +kernel
theorem dX3_farthestReach_12 : decode cX3_farthestReach 12 = .ok (.aload_n 0, 1) := by decide +kernel
theorem dX3_farthestReach_13 : decode cX3_farthestReach 13 = .ok (.iconst 1, 1) := by decide +kernel
theorem dX3_farthestReach_14 : decode cX3_farthestReach 14 = .ok (.invokevirtual 62, 3) := by decide +kernel
theorem dX3_farthestReach_17 : decode cX3_farthestReach 17 = .ok (.ireturn, 1) := by decide +kernel
theorem dX3_farthestReach_18 : decode cX3_farthestReach 18 = .ok (.iload_n 1, 1) := by decide +kernel
theorem dX3_farthestReach_19 : decode cX3_farthestReach 19 = .ok (.invokestatic 75, 3) := by decide +kernel
theorem dX3_farthestReach_22 : decode cX3_farthestReach 22 = .ok (.ifCond .ne 9, 3) := by decide +kernel
theorem dX3_farthestReach_25 : decode cX3_farthestReach 25 = .ok (.aload_n 0, 1) := by decide +kernel
theorem dX3_farthestReach_26 : decode cX3_farthestReach 26 = .ok (.iconst 2, 1) := by decide +kernel
theorem dX3_farthestReach_27 : decode cX3_farthestReach 27 = .ok (.invokevirtual 62, 3) := by decide +kernel
theorem dX3_farthestReach_30 : decode cX3_farthestReach 30 = .ok (.ireturn, 1) := by decide +kernel
theorem dX3_farthestReach_31 : decode cX3_farthestReach 31 = .ok (.iconst 3, 1) := by decide +kernel
theorem dX3_farthestReach_32 : decode cX3_farthestReach 32 = .ok (.istore_n 3, 1) := by decide +kernel
theorem dX3_farthestReach_33 : decode cX3_farthestReach 33 = .ok (.iload_n 3, 1) := by decide +kernel
theorem dX3_farthestReach_34 : decode cX3_farthestReach 34 = .ok (.bipush 30, 2) := by decide +kernel
theorem dX3_farthestReach_36 : decode cX3_farthestReach 36 = .ok (.if_icmp .gt 19, 3) := by decide +kernel
theorem dX3_farthestReach_39 : decode cX3_farthestReach 39 = .ok (.aload_n 0, 1) := by decide +kernel
theorem dX3_farthestReach_40 : decode cX3_farthestReach 40 = .ok (.iload_n 1, 1) := by decide +kernel
theorem dX3_farthestReach_41 : decode cX3_farthestReach 41 = .ok (.iload_n 2, 1) := by decide +kernel
theorem dX3_farthestReach_42 : decode cX3_farthestReach 42 = .ok (.iload_n 3, 1) := by decide +kernel
theorem dX3_farthestReach_43 : decode cX3_farthestReach 43 = .ok (.invokevirtual 59, 3) := by decide +kernel
theorem dX3_farthestReach_46 : decode cX3_farthestReach 46 = .ok (.ifCond .eq 9, 3) := by decide +kernel
theorem dX3_farthestReach_49 : decode cX3_farthestReach 49 = .ok (.iinc 3 1, 3) := by decide +kernel
theorem dX3_farthestReach_52 : decode cX3_farthestReach 52 = .ok (.goto (-19), 3) := by decide +kernel
theorem dX3_farthestReach_55 : decode cX3_farthestReach 55 = .ok (.iload_n 3, 1) := by decide +kernel
theorem dX3_farthestReach_56 : decode cX3_farthestReach 56 = .ok (.iconst 3, 1) := by decide +kernel
theorem dX3_farthestReach_57 : decode cX3_farthestReach 57 = .ok (.if_icmp .ne 7, 3) := by decide +kernel
theorem dX3_farthestReach_60 : decode cX3_farthestReach 60 = .ok (.iconst (-1), 1) := by decide +kernel
theorem dX3_farthestReach_61 : decode cX3_farthestReach 61 = .ok (.goto 6, 3) := by decide +kernel
theorem dX3_farthestReach_64 : decode cX3_farthestReach 64 = .ok (.iload_n 3, 1) := by decide +kernel
theorem dX3_farthestReach_65 : decode cX3_farthestReach 65 = .ok (.iconst 1, 1) := by decide +kernel
theorem dX3_farthestReach_66 : decode cX3_farthestReach 66 = .ok (.isub, 1) := by decide +kernel
theorem dX3_farthestReach_67 : decode cX3_farthestReach 67 = .ok (.ireturn, 1) := by decide +kernel
set_option maxRecDepth 20000 in
theorem ggX3_safeAround_X3_isSafe : GoodIn wsX3_safeAround wsX3_isSafe := goodIn_r _ [5, 6, 7, 8, 9, 4, 10, 11, 12, 13, 14, 15, 16, 17, 18, 19, 20, 21, 22, 23, 24, 25, 26, 27, 28, 29, 30, 31, 32, 33] (by decide +kernel) (by decide +kernel)
set_option maxRecDepth 20000 in
theorem gX3_safeAround_X3_isSafe : GoodIn wsX3_safeAround (wsV RX3 59 RX3 yX3_isSafe wsX3_isSafe) := goodIn_app (goodIn_of _ (by decide +kernel)) ggX3_safeAround_X3_isSafe
theorem dX3_safeAround_0 : decode cX3_safeAround 0 = .ok (.iconst 0, 1) := by decide +kernel
theorem dX3_safeAround_1 : decode cX3_safeAround 1 = .ok (.istore_n 3, 1) := by decide +kernel
theorem dX3_safeAround_2 : decode cX3_safeAround 2 = .ok (.iconst 0, 1) := by decide +kernel
theorem dX3_safeAround_3 : decode cX3_safeAround 3 = .ok (.istore 4, 2) := by decide +kernel
theorem dX3_safeAround_5 : decode cX3_safeAround 5 = .ok (.iload 4, 2) := by decide +kernel
theorem dX3_safeAround_7 : decode cX3_safeAround 7 = .ok (.bipush 8, 2) := by decide +kernel
theorem dX3_safeAround_9 : decode cX3_safeAround 9 = .ok (.if_icmp .ge 28, 3) := by decide +kernel
theorem dX3_safeAround_12 : decode cX3_safeAround 12 = .ok (.iload_n 3, 1) := by decide +kernel
theorem dX3_safeAround_13 : decode cX3_safeAround 13 = .ok (.aload_n 0, 1) := by decide +kernel
theorem dX3_safeAround_14 : decode cX3_safeAround 14 = .ok (.iload_n 1, 1) := by decide +kernel
theorem dX3_safeAround_15 : decode cX3_safeAround 15 = .ok (.iload 4, 2) := by decide +kernel
theorem dX3_safeAround_17 : decode cX3_safeAround 17 = .ok (.iload_n 2, 1) := by decide +kernel
theorem dX3_safeAround_18 : decode cX3_safeAround 18 = .ok (.invokevirtual 59, 3) := by decide +kernel
theorem dX3_safeAround_21 : decode cX3_safeAround 21 = .ok (.ifCond .eq 7, 3) := by decide +kernel
theorem dX3_safeAround_24 : decode cX3_safeAround 24 = .ok (.iconst 1, 1) := by decide +kernel
theorem dX3_safeAround_25 : decode cX3_safeAround 25 = .ok (.goto 4, 3) := by decide +kernel
theorem dX3_safeAround_28 : decode cX3_safeAround 28 = .ok (.iconst 0, 1) := by decide +kernel
theorem dX3_safeAround_29 : decode cX3_safeAround 29 = .ok (.iadd, 1) := by decide +kernel
theorem dX3_safeAround_30 : decode cX3_safeAround 30 = .ok (.istore_n 3, 1) := by decide +kernel
theorem dX3_safeAround_31 : decode cX3_safeAround 31 = .ok (.iinc 4 1, 3) := by decide +kernel
theorem dX3_safeAround_34 : decode cX3_safeAround 34 = .ok (.goto (-29), 3) := by decide +kernel
theorem dX3_safeAround_37 : decode cX3_safeAround 37 = .ok (.iload_n 3, 1) := by decide +kernel
theorem dX3_safeAround_38 : decode cX3_safeAround 38 = .ok (.ireturn, 1) := by decide +kernel
set_option maxRecDepth 20000 in
theorem ggX3_safeDirections_X3_isLoad : GoodIn wsX3_safeDirections wsX3_isLoad := goodIn_r _ [5, 6, 7, 4, 8] (by decide +kernel) (by decide +kernel)
set_option maxRecDepth 20000 in
theorem gX3_safeDirections_X3_isLoad : GoodIn wsX3_safeDirections (va_wsS RX3 75 yX3_isLoad wsX3_isLoad) := goodIn_app (goodIn_of _ (by decide +kernel)) ggX3_safeDirections_X3_isLoad
set_option maxRecDepth 20000 in
theorem ggX3_safeDirections_X3_isReach : GoodIn wsX3_safeDirections wsX3_isReach := goodIn_r _ [11, 6, 7, 4, 8] (by decide +kernel) (by decide +kernel)
set_option maxRecDepth 20000 in
theorem gX3_safeDirections_X3_isReach : GoodIn wsX3_safeDirections (va_wsS RX3 72 yX3_isReach wsX3_isReach) := goodIn_app (goodIn_of _ (by decide +kernel)) ggX3_safeDirections_X3_isReach
set_option maxRecDepth 20000 in
theorem ggX3_safeDirections_X3_safeAround : GoodIn wsX3_safeDirections wsX3_safeAround := goodIn_r _ [15, 16, 17, 18, 4, 19, 20, 21, 22, 23, 24, 25, 26, 27, 28, 29, 30, 31, 32, 33, 34, 39, 40, 41, 42, 43, 44, 45, 46, 47, 48, 49, 50, 51] (by decide +kernel) (by decide +kernel)
set_option maxRecDepth 20000 in
theorem gX3_safeDirections_X3_safeAround : GoodIn wsX3_safeDirections (wsV RX3 109 RX3 yX3_safeAround wsX3_safeAround) := goodIn_app (goodIn_of _ (by decide +kernel)) ggX3_safeDirections_X3_safeAround
set_option maxRecDepth 20000 in
theorem ggX3_safeDirections_X3_no : GoodIn wsX3_safeDirections wsX3_no := goodIn_r _ [38, 1, 39, 40, 41, 42, 43, 44, 45, 46, 47, 48, 49, 50, 51] (by decide +kernel) (by decide +kernel)
set_option maxRecDepth 20000 in
theorem gX3_safeDirections_X3_no : GoodIn wsX3_safeDirections (wsV RX3 62 RX3 yX3_no wsX3_no) := goodIn_app (goodIn_of _ (by decide +kernel)) ggX3_safeDirections_X3_no
theorem dX3_safeDirections_0 : decode cX3_safeDirections 0 = .ok (.aload_n 0, 1) := by decide +kernel
theorem dX3_safeDirections_1 : decode cX3_safeDirections 1 = .ok (.iconst 0, 1) := by decide +kernel
theorem dX3_safeDirections_2 : decode cX3_safeDirections 2 = .ok (.putfield 26, 3) := by decide +kernel
theorem dX3_safeDirections_5 : decode cX3_safeDirections 5 = .ok (.iload_n 1, 1) := by decide +kernel
theorem dX3_safeDirections_6 : decode cX3_safeDirections 6 = .ok (.invokestatic 75, 3) := by decide +kernel
theorem dX3_safeDirections_9 : decode cX3_safeDirections 9 = .ok (.ifCond .eq 19, 3) := by decide +kernel
theorem dX3_safeDirections_12 : decode cX3_safeDirections 12 = .ok (.iload_n 2, 1) := by decide +kernel
theorem dX3_safeDirections_13 : decode cX3_safeDirections 13 = .ok (.invokestatic 72, 3) := by decide +kernel
theorem dX3_safeDirections_16 : decode cX3_safeDirections 16 = .ok (.ifCond .eq 12, 3) := by decide +kernel
theorem dX3_safeDirections_19 : decode cX3_safeDirections 19 = .ok (.aload_n 0, 1) := by decide +kernel
theorem dX3_safeDirections_20 : decode cX3_safeDirections 20 = .ok (.iload_n 1, 1) := by decide +kernel
theorem dX3_safeDirections_21 : decode cX3_safeDirections 21 = .ok (.iload_n 2, 1) := by decide +kernel
theorem dX3_safeDirections_22 : decode cX3_safeDirections 22 = .ok (.invokevirtual 109, 3) := by decide +kernel
theorem dX3_safeDirections_25 : decode cX3_safeDirections 25 = .ok (.goto 8, 3) := by decide +kernel
theorem dX3_safeDirections_28 : decode cX3_safeDirections 28 = .ok (.aload_n 0, 1) := by decide +kernel
theorem dX3_safeDirections_29 : decode cX3_safeDirections 29 = .ok (.iconst 1, 1) := by decide +kernel
theorem dX3_safeDirections_30 : decode cX3_safeDirections 30 = .ok (.invokevirtual 62, 3) := by decide +kernel
theorem dX3_safeDirections_33 : decode cX3_safeDirections 33 = .ok (.ireturn, 1) := by decide +kernel
set_option maxRecDepth 20000 in
theorem ggX3_fewestPlates_X3_isSafe : GoodIn wsX3_fewestPlates wsX3_isSafe := goodIn_r _ [6, 7, 8, 9, 10, 5, 11, 12, 13, 14, 15, 16, 17, 18, 19, 20, 1, 21, 22, 23, 24, 25, 26, 27, 28, 29, 30, 31, 32, 33] (by decide +kernel) (by decide +kernel)
set_option maxRecDepth 20000 in
theorem gX3_fewestPlates_X3_isSafe : GoodIn wsX3_fewestPlates (wsV RX3 59 RX3 yX3_isSafe wsX3_isSafe) := goodIn_app (goodIn_of _ (by decide +kernel)) ggX3_fewestPlates_X3_isSafe
theorem dX3_fewestPlates_0 : decode cX3_fewestPlates 0 = .ok (.aload_n 0, 1) := by decide +kernel
theorem dX3_fewestPlates_1 : decode cX3_fewestPlates 1 = .ok (.getfield 46, 3) := by decide +kernel
theorem dX3_fewestPlates_4 : decode cX3_fewestPlates 4 = .ok (.istore 4, 2) := by decide +kernel
theorem dX3_fewestPlates_6 : decode cX3_fewestPlates 6 = .ok (.iconst (-1), 1) := by decide +kernel
theorem dX3_fewestPlates_7 : decode cX3_fewestPlates 7 = .ok (.istore 5, 2) := by decide +kernel
theorem dX3_fewestPlates_9 : decode cX3_fewestPlates 9 = .ok (.aload_n 0, 1) := by decide +kernel
theorem dX3_fewestPlates_10 : decode cX3_fewestPlates 10 = .ok (.iconst 0, 1) := by decide +kernel
theorem dX3_fewestPlates_11 : decode cX3_fewestPlates 11 = .ok (.putfield 46, 3) := by decide +kernel
theorem dX3_fewestPlates_14 : decode cX3_fewestPlates 14 = .ok (.aload_n 0, 1) := by decide +kernel
theorem dX3_fewestPlates_15 : decode cX3_fewestPlates 15 = .ok (.getfield 46, 3) := by decide +kernel
theorem dX3_fewestPlates_18 : decode cX3_fewestPlates 18 = .ok (.bipush 12, 2) := by decide +kernel
theorem dX3_fewestPlates_20 : decode cX3_fewestPlates 20 = .ok (.if_icmp .gt 38, 3) := by decide +kernel
theorem dX3_fewestPlates_23 : decode cX3_fewestPlates 23 = .ok (.iload 5, 2) := by decide +kernel
theorem dX3_fewestPlates_25 : decode cX3_fewestPlates 25 = .ok (.iconst (-1), 1) := by decide +kernel
theorem dX3_fewestPlates_26 : decode cX3_fewestPlates 26 = .ok (.if_icmp .ne 32, 3) := by decide +kernel
theorem dX3_fewestPlates_29 : decode cX3_fewestPlates 29 = .ok (.aload_n 0, 1) := by decide +kernel
theorem dX3_fewestPlates_30 : decode cX3_fewestPlates 30 = .ok (.iload_n 1, 1) := by decide +kernel
theorem dX3_fewestPlates_31 : decode cX3_fewestPlates 31 = .ok (.iload_n 2, 1) := by decide +kernel
theorem dX3_fewestPlates_32 : decode cX3_fewestPlates 32 = .ok (.iload_n 3, 1) := by decide +kernel
theorem dX3_fewestPlates_33 : decode cX3_fewestPlates 33 = .ok (.invokevirtual 59, 3) := by decide +kernel
theorem dX3_fewestPlates_36 : decode cX3_fewestPlates 36 = .ok (.ifCond .eq 9, 3) := by decide +kernel
theorem dX3_fewestPlates_39 : decode cX3_fewestPlates 39 = .ok (.aload_n 0, 1) := by decide +kernel
theorem dX3_fewestPlates_40 : decode cX3_fewestPlates 40 = .ok (.getfield 46, 3) := by decide +kernel
theorem dX3_fewestPlates_43 : decode cX3_fewestPlates 43 = .ok (.istore 5, 2) := by decide +kernel
theorem dX3_fewestPlates_45 : decode cX3_fewestPlates 45 = .ok (.aload_n 0, 1) := by decide +kernel
theorem dX3_fewestPlates_46 : decode cX3_fewestPlates 46 = .ok (.dup, 1) := by decide +kernel
theorem dX3_fewestPlates_47 : decode cX3_fewestPlates 47 = .ok (.getfield 46, 3) := by decide +kernel
theorem dX3_fewestPlates_50 : decode cX3_fewestPlates 50 = .ok (.iconst 1, 1) := by decide +kernel
theorem dX3_fewestPlates_51 : decode cX3_fewestPlates 51 = .ok (.iadd, 1) := by decide +kernel
theorem dX3_fewestPlates_52 : decode cX3_fewestPlates 52 = .ok (.putfield 46, 3) := by decide +kernel
theorem dX3_fewestPlates_55 : decode cX3_fewestPlates 55 = .ok (.goto (-41), 3) := by decide +kernel
theorem dX3_fewestPlates_58 : decode cX3_fewestPlates 58 = .ok (.aload_n 0, 1) := by decide +kernel
theorem dX3_fewestPlates_59 : decode cX3_fewestPlates 59 = .ok (.iload 4, 2) := by decide +kernel
theorem dX3_fewestPlates_61 : decode cX3_fewestPlates 61 = .ok (.putfield 46, 3) := by decide +kernel
theorem dX3_fewestPlates_64 : decode cX3_fewestPlates 64 = .ok (.iload 5, 2) := by decide +kernel
theorem dX3_fewestPlates_66 : decode cX3_fewestPlates 66 = .ok (.ireturn, 1) := by decide +kernel
set_option maxRecDepth 20000 in
theorem ggX3_platesNeeded_X3_isDirection : GoodIn wsX3_platesNeeded wsX3_isDirection := goodIn_r _ [5, 6, 7, 4, 8] (by decide +kernel) (by decide +kernel)
set_option maxRecDepth 20000 in
theorem gX3_platesNeeded_X3_isDirection : GoodIn wsX3_platesNeeded (va_wsS RX3 100 yX3_isDirection wsX3_isDirection) := goodIn_app (goodIn_of _ (by decide +kernel)) ggX3_platesNeeded_X3_isDirection
set_option maxRecDepth 20000 in
theorem ggX3_platesNeeded_X3_no : GoodIn wsX3_platesNeeded wsX3_no := goodIn_r _ [12, 1, 42, 43, 44, 45, 46, 47, 48, 49, 50, 51, 52, 53, 54] (by decide +kernel) (by decide +kernel)
set_option maxRecDepth 20000 in
theorem gX3_platesNeeded_X3_no : GoodIn wsX3_platesNeeded (wsV RX3 62 RX3 yX3_no wsX3_no) := goodIn_app (goodIn_of _ (by decide +kernel)) ggX3_platesNeeded_X3_no
set_option maxRecDepth 20000 in
theorem ggX3_platesNeeded_X3_isLoad : GoodIn wsX3_platesNeeded wsX3_isLoad := goodIn_r _ [15, 6, 7, 4, 8] (by decide +kernel) (by decide +kernel)
set_option maxRecDepth 20000 in
theorem gX3_platesNeeded_X3_isLoad : GoodIn wsX3_platesNeeded (va_wsS RX3 75 yX3_isLoad wsX3_isLoad) := goodIn_app (goodIn_of _ (by decide +kernel)) ggX3_platesNeeded_X3_isLoad
set_option maxRecDepth 20000 in
theorem ggX3_platesNeeded_X3_isReach : GoodIn wsX3_platesNeeded wsX3_isReach := goodIn_r _ [18, 6, 7, 4, 8] (by decide +kernel) (by decide +kernel)
set_option maxRecDepth 20000 in
theorem gX3_platesNeeded_X3_isReach : GoodIn wsX3_platesNeeded (va_wsS RX3 72 yX3_isReach wsX3_isReach) := goodIn_app (goodIn_of _ (by decide +kernel)) ggX3_platesNeeded_X3_isReach
set_option maxRecDepth 20000 in
theorem ggX3_platesNeeded_X3_fewestPlates : GoodIn wsX3_platesNeeded wsX3_fewestPlates := goodIn_r _ [22, 23, 24, 25, 26, 4, 27, 28, 29, 30, 31, 32, 33, 34, 35, 36, 37, 38, 39, 40, 41, 42, 43, 44, 45, 46, 47, 48, 49, 50, 51, 52, 53, 54] (by decide +kernel) (by decide +kernel)
set_option maxRecDepth 20000 in
theorem gX3_platesNeeded_X3_fewestPlates : GoodIn wsX3_platesNeeded (wsV RX3 112 RX3 yX3_fewestPlates wsX3_fewestPlates) := goodIn_app (goodIn_of _ (by decide +kernel)) ggX3_platesNeeded_X3_fewestPlates
theorem dX3_platesNeeded_0 : decode cX3_platesNeeded 0 = .ok (.aload_n 0, 1) := by decide +kernel
theorem dX3_platesNeeded_1 : decode cX3_platesNeeded 1 = .ok (.iconst 0, 1) := by decide +kernel
theorem dX3_platesNeeded_2 : decode cX3_platesNeeded 2 = .ok (.putfield 26, 3) := by decide +kernel
theorem dX3_platesNeeded_5 : decode cX3_platesNeeded 5 = .ok (.iload_n 2, 1) := by decide +kernel
theorem dX3_platesNeeded_6 : decode cX3_platesNeeded 6 = .ok (.invokestatic 100, 3) := by decide +kernel
theorem dX3_platesNeeded_9 : decode cX3_platesNeeded 9 = .ok (.ifCond .ne 9, 3) := by decide +kernel
theorem dX3_platesNeeded_12 : decode cX3_platesNeeded 12 = .ok (.aload_n 0, 1) := by decide +kernel
theorem dX3_platesNeeded_13 : decode cX3_platesNeeded 13 = .ok (.iconst 1, 1) := by decide +kernel
theorem dX3_platesNeeded_14 : decode cX3_platesNeeded 14 = .ok (.invokevirtual 62, 3) := by decide +kernel
theorem dX3_platesNeeded_17 : decode cX3_platesNeeded 17 = .ok (.ireturn, 1) := by decide +kernel
theorem dX3_platesNeeded_18 : decode cX3_platesNeeded 18 = .ok (.iload_n 1, 1) := by decide +kernel
theorem dX3_platesNeeded_19 : decode cX3_platesNeeded 19 = .ok (.invokestatic 75, 3) := by decide +kernel
theorem dX3_platesNeeded_22 : decode cX3_platesNeeded 22 = .ok (.ifCond .eq 20, 3) := by decide +kernel
theorem dX3_platesNeeded_25 : decode cX3_platesNeeded 25 = .ok (.iload_n 3, 1) := by decide +kernel
theorem dX3_platesNeeded_26 : decode cX3_platesNeeded 26 = .ok (.invokestatic 72, 3) := by decide +kernel
theorem dX3_platesNeeded_29 : decode cX3_platesNeeded 29 = .ok (.ifCond .eq 13, 3) := by decide +kernel
theorem dX3_platesNeeded_32 : decode cX3_platesNeeded 32 = .ok (.aload_n 0, 1) := by decide +kernel
theorem dX3_platesNeeded_33 : decode cX3_platesNeeded 33 = .ok (.iload_n 1, 1) := by decide +kernel
theorem dX3_platesNeeded_34 : decode cX3_platesNeeded 34 = .ok (.iload_n 2, 1) := by decide +kernel
theorem dX3_platesNeeded_35 : decode cX3_platesNeeded 35 = .ok (.iload_n 3, 1) := by decide +kernel
theorem dX3_platesNeeded_36 : decode cX3_platesNeeded 36 = .ok (.invokevirtual 112, 3) := by decide +kernel
theorem dX3_platesNeeded_39 : decode cX3_platesNeeded 39 = .ok (.goto 8, 3) := by decide +kernel
theorem dX3_platesNeeded_42 : decode cX3_platesNeeded 42 = .ok (.aload_n 0, 1) := by decide +kernel
theorem dX3_platesNeeded_43 : decode cX3_platesNeeded 43 = .ok (.iconst 2, 1) := by decide +kernel
theorem dX3_platesNeeded_44 : decode cX3_platesNeeded 44 = .ok (.invokevirtual 62, 3) := by decide +kernel
theorem dX3_platesNeeded_47 : decode cX3_platesNeeded 47 = .ok (.ireturn, 1) := by decide +kernel
set_option maxRecDepth 20000 in
theorem ggX3_comeTo_X3_isReach : GoodIn wsX3_comeTo wsX3_isReach := goodIn_r _ [7, 8, 9, 6, 10] (by decide +kernel) (by decide +kernel)
set_option maxRecDepth 20000 in
theorem gX3_comeTo_X3_isReach : GoodIn wsX3_comeTo (va_wsS RX3 72 yX3_isReach wsX3_isReach) := goodIn_app (goodIn_of _ (by decide +kernel)) ggX3_comeTo_X3_isReach
set_option maxRecDepth 20000 in
theorem ggX3_comeTo_X3_isSafe : GoodIn wsX3_comeTo wsX3_isSafe := goodIn_r _ [14, 15, 16, 17, 18, 6, 19, 20, 21, 22, 23, 24, 25, 26, 27, 28, 29, 30, 31, 32, 33, 34, 35, 36, 37, 38, 39, 40, 41, 42] (by decide +kernel) (by decide +kernel)
set_option maxRecDepth 20000 in
theorem gX3_comeTo_X3_isSafe : GoodIn wsX3_comeTo (wsV RX3 59 RX3 yX3_isSafe wsX3_isSafe) := goodIn_app (goodIn_of _ (by decide +kernel)) ggX3_comeTo_X3_isSafe
theorem dX3_comeTo_0 : decode cX3_comeTo 0 = .ok (.iload_n 3, 1) := by decide +kernel
theorem dX3_comeTo_1 : decode cX3_comeTo 1 = .ok (.invokestatic 72, 3) := by decide +kernel
theorem dX3_comeTo_4 : decode cX3_comeTo 4 = .ok (.ifCond .eq 28, 3) := by decide +kernel
theorem dX3_comeTo_7 : decode cX3_comeTo 7 = .ok (.aload_n 0, 1) := by decide +kernel
theorem dX3_comeTo_8 : decode cX3_comeTo 8 = .ok (.getfield 20, 3) := by decide +kernel
theorem dX3_comeTo_11 : decode cX3_comeTo 11 = .ok (.bipush 8, 2) := by decide +kernel
theorem dX3_comeTo_13 : decode cX3_comeTo 13 = .ok (.iload_n 3, 1) := by decide +kernel
theorem dX3_comeTo_14 : decode cX3_comeTo 14 = .ok (.imul, 1) := by decide +kernel
theorem dX3_comeTo_15 : decode cX3_comeTo 15 = .ok (.iload_n 2, 1) := by decide +kernel
theorem dX3_comeTo_16 : decode cX3_comeTo 16 = .ok (.iadd, 1) := by decide +kernel
theorem dX3_comeTo_17 : decode cX3_comeTo 17 = .ok (.iaload, 1) := by decide +kernel
theorem dX3_comeTo_18 : decode cX3_comeTo 18 = .ok (.iconst (-1), 1) := by decide +kernel
theorem dX3_comeTo_19 : decode cX3_comeTo 19 = .ok (.if_icmp .ne 13, 3) := by decide +kernel
theorem dX3_comeTo_22 : decode cX3_comeTo 22 = .ok (.aload_n 0, 1) := by decide +kernel
theorem dX3_comeTo_23 : decode cX3_comeTo 23 = .ok (.iload_n 1, 1) := by decide +kernel
theorem dX3_comeTo_24 : decode cX3_comeTo 24 = .ok (.iload_n 2, 1) := by decide +kernel
theorem dX3_comeTo_25 : decode cX3_comeTo 25 = .ok (.iload_n 3, 1) := by decide +kernel
theorem dX3_comeTo_26 : decode cX3_comeTo 26 = .ok (.invokevirtual 59, 3) := by decide +kernel
theorem dX3_comeTo_29 : decode cX3_comeTo 29 = .ok (.ifCond .ne 4, 3) := by decide +kernel
theorem dX3_comeTo_32 : decode cX3_comeTo 32 = .ok (.return_, 1) := by decide +kernel
theorem dX3_comeTo_33 : decode cX3_comeTo 33 = .ok (.aload_n 0, 1) := by decide +kernel
theorem dX3_comeTo_34 : decode cX3_comeTo 34 = .ok (.getfield 20, 3) := by decide +kernel
theorem dX3_comeTo_37 : decode cX3_comeTo 37 = .ok (.bipush 8, 2) := by decide +kernel
theorem dX3_comeTo_39 : decode cX3_comeTo 39 = .ok (.iload_n 3, 1) := by decide +kernel
theorem dX3_comeTo_40 : decode cX3_comeTo 40 = .ok (.imul, 1) := by decide +kernel
theorem dX3_comeTo_41 : decode cX3_comeTo 41 = .ok (.iload_n 2, 1) := by decide +kernel
theorem dX3_comeTo_42 : decode cX3_comeTo 42 = .ok (.iadd, 1) := by decide +kernel
theorem dX3_comeTo_43 : decode cX3_comeTo 43 = .ok (.iload 4, 2) := by decide +kernel
theorem dX3_comeTo_45 : decode cX3_comeTo 45 = .ok (.iastore, 1) := by decide +kernel
theorem dX3_comeTo_46 : decode cX3_comeTo 46 = .ok (.aload_n 0, 1) := by decide +kernel
theorem dX3_comeTo_47 : decode cX3_comeTo 47 = .ok (.getfield 23, 3) := by decide +kernel
theorem dX3_comeTo_50 : decode cX3_comeTo 50 = .ok (.aload_n 0, 1) := by decide +kernel
theorem dX3_comeTo_51 : decode cX3_comeTo 51 = .ok (.getfield 116, 3) := by decide +kernel
theorem dX3_comeTo_54 : decode cX3_comeTo 54 = .ok (.bipush 8, 2) := by decide +kernel
theorem dX3_comeTo_56 : decode cX3_comeTo 56 = .ok (.iload_n 3, 1) := by decide +kernel
theorem dX3_comeTo_57 : decode cX3_comeTo 57 = .ok (.imul, 1) := by decide +kernel
theorem dX3_comeTo_58 : decode cX3_comeTo 58 = .ok (.iload_n 2, 1) := by decide +kernel
theorem dX3_comeTo_59 : decode cX3_comeTo 59 = .ok (.iadd, 1) := by decide +kernel
theorem dX3_comeTo_60 : decode cX3_comeTo 60 = .ok (.iastore, 1) := by decide +kernel
theorem dX3_comeTo_61 : decode cX3_comeTo 61 = .ok (.aload_n 0, 1) := by decide +kernel
theorem dX3_comeTo_62 : decode cX3_comeTo 62 = .ok (.dup, 1) := by decide +kernel
theorem dX3_comeTo_63 : decode cX3_comeTo 63 = .ok (.getfield 116, 3) := by decide +kernel
theorem dX3_comeTo_66 : decode cX3_comeTo 66 = .ok (.iconst 1, 1) := by decide +kernel
theorem dX3_comeTo_67 : decode cX3_comeTo 67 = .ok (.iadd, 1) := by decide +kernel
theorem dX3_comeTo_68 : decode cX3_comeTo 68 = .ok (.putfield 116, 3) := by decide +kernel
theorem dX3_comeTo_71 : decode cX3_comeTo 71 = .ok (.return_, 1) := by decide +kernel
set_option maxRecDepth 20000 in
theorem ggX3_goOut_X3_comeTo : GoodIn wsX3_goOut wsX3_comeTo := goodIn_r _ [10, 1, 5, 2, 11, 12, 9, 13, 14, 15, 16, 17, 18, 19, 20, 21, 22, 23, 24, 25, 26, 27, 28, 29, 30, 31, 32, 33, 34, 35, 36, 37, 38, 39, 40, 41, 42, 43, 44, 45, 46, 47, 48] (by decide +kernel) (by decide +kernel)
set_option maxRecDepth 20000 in
theorem gX3_goOut_X3_comeTo : GoodIn wsX3_goOut (wsV RX3 119 RX3 yX3_comeTo wsX3_comeTo) := goodIn_app (goodIn_of _ (by decide +kernel)) ggX3_goOut_X3_comeTo
theorem dX3_goOut_0 : decode cX3_goOut 0 = .ok (.iconst 0, 1) := by decide +kernel
theorem dX3_goOut_1 : decode cX3_goOut 1 = .ok (.istore_n 2, 1) := by decide +kernel
theorem dX3_goOut_2 : decode cX3_goOut 2 = .ok (.iload_n 2, 1) := by decide +kernel
theorem dX3_goOut_3 : decode cX3_goOut 3 = .ok (.sipush 248, 3) := by decide +kernel
theorem dX3_goOut_6 : decode cX3_goOut 6 = .ok (.if_icmp .ge 16, 3) := by decide +kernel
theorem dX3_goOut_9 : decode cX3_goOut 9 = .ok (.aload_n 0, 1) := by decide +kernel
theorem dX3_goOut_10 : decode cX3_goOut 10 = .ok (.getfield 20, 3) := by decide +kernel
theorem dX3_goOut_13 : decode cX3_goOut 13 = .ok (.iload_n 2, 1) := by decide +kernel
theorem dX3_goOut_14 : decode cX3_goOut 14 = .ok (.iconst (-1), 1) := by decide +kernel
theorem dX3_goOut_15 : decode cX3_goOut 15 = .ok (.iastore, 1) := by decide +kernel
theorem dX3_goOut_16 : decode cX3_goOut 16 = .ok (.iinc 2 1, 3) := by decide +kernel
theorem dX3_goOut_19 : decode cX3_goOut 19 = .ok (.goto (-17), 3) := by decide +kernel
theorem dX3_goOut_22 : decode cX3_goOut 22 = .ok (.aload_n 0, 1) := by decide +kernel
theorem dX3_goOut_23 : decode cX3_goOut 23 = .ok (.iconst 0, 1) := by decide +kernel
theorem dX3_goOut_24 : decode cX3_goOut 24 = .ok (.putfield 116, 3) := by decide +kernel
theorem dX3_goOut_27 : decode cX3_goOut 27 = .ok (.aload_n 0, 1) := by decide +kernel
theorem dX3_goOut_28 : decode cX3_goOut 28 = .ok (.iload_n 1, 1) := by decide +kernel
theorem dX3_goOut_29 : decode cX3_goOut 29 = .ok (.aload_n 0, 1) := by decide +kernel
theorem dX3_goOut_30 : decode cX3_goOut 30 = .ok (.getfield 56, 3) := by decide +kernel
theorem dX3_goOut_33 : decode cX3_goOut 33 = .ok (.aload_n 0, 1) := by decide +kernel
theorem dX3_goOut_34 : decode cX3_goOut 34 = .ok (.getfield 9, 3) := by decide +kernel
theorem dX3_goOut_37 : decode cX3_goOut 37 = .ok (.iconst 0, 1) := by decide +kernel
theorem dX3_goOut_38 : decode cX3_goOut 38 = .ok (.invokevirtual 119, 3) := by decide +kernel
theorem dX3_goOut_41 : decode cX3_goOut 41 = .ok (.iconst 0, 1) := by decide +kernel
theorem dX3_goOut_42 : decode cX3_goOut 42 = .ok (.istore_n 2, 1) := by decide +kernel
theorem dX3_goOut_43 : decode cX3_goOut 43 = .ok (.iload_n 2, 1) := by decide +kernel
theorem dX3_goOut_44 : decode cX3_goOut 44 = .ok (.aload_n 0, 1) := by decide +kernel
theorem dX3_goOut_45 : decode cX3_goOut 45 = .ok (.getfield 116, 3) := by decide +kernel
theorem dX3_goOut_48 : decode cX3_goOut 48 = .ok (.if_icmp .ge 102, 3) := by decide +kernel
theorem dX3_goOut_51 : decode cX3_goOut 51 = .ok (.aload_n 0, 1) := by decide +kernel
theorem dX3_goOut_52 : decode cX3_goOut 52 = .ok (.getfield 23, 3) := by decide +kernel
theorem dX3_goOut_55 : decode cX3_goOut 55 = .ok (.iload_n 2, 1) := by decide +kernel
theorem dX3_goOut_56 : decode cX3_goOut 56 = .ok (.iaload, 1) := by decide +kernel
theorem dX3_goOut_57 : decode cX3_goOut 57 = .ok (.bipush 8, 2) := by decide +kernel
theorem dX3_goOut_59 : decode cX3_goOut 59 = .ok (.irem, 1) := by decide +kernel
theorem dX3_goOut_60 : decode cX3_goOut 60 = .ok (.istore_n 3, 1) := by decide +kernel
theorem dX3_goOut_61 : decode cX3_goOut 61 = .ok (.aload_n 0, 1) := by decide +kernel
theorem dX3_goOut_62 : decode cX3_goOut 62 = .ok (.getfield 23, 3) := by decide +kernel
theorem dX3_goOut_65 : decode cX3_goOut 65 = .ok (.iload_n 2, 1) := by decide +kernel
theorem dX3_goOut_66 : decode cX3_goOut 66 = .ok (.iaload, 1) := by decide +kernel
theorem dX3_goOut_67 : decode cX3_goOut 67 = .ok (.bipush 8, 2) := by decide +kernel
theorem dX3_goOut_69 : decode cX3_goOut 69 = .ok (.idiv, 1) := by decide +kernel
theorem dX3_goOut_70 : decode cX3_goOut 70 = .ok (.istore 4, 2) := by decide +kernel
theorem dX3_goOut_72 : decode cX3_goOut 72 = .ok (.aload_n 0, 1) := by decide +kernel
theorem dX3_goOut_73 : decode cX3_goOut 73 = .ok (.getfield 20, 3) := by decide +kernel
theorem dX3_goOut_76 : decode cX3_goOut 76 = .ok (.aload_n 0, 1) := by decide +kernel
theorem dX3_goOut_77 : decode cX3_goOut 77 = .ok (.getfield 23, 3) := by decide +kernel
theorem dX3_goOut_80 : decode cX3_goOut 80 = .ok (.iload_n 2, 1) := by decide +kernel
theorem dX3_goOut_81 : decode cX3_goOut 81 = .ok (.iaload, 1) := by decide +kernel
theorem dX3_goOut_82 : decode cX3_goOut 82 = .ok (.iaload, 1) := by decide +kernel
theorem dX3_goOut_83 : decode cX3_goOut 83 = .ok (.iconst 1, 1) := by decide +kernel
theorem dX3_goOut_84 : decode cX3_goOut 84 = .ok (.iadd, 1) := by decide +kernel
theorem dX3_goOut_85 : decode cX3_goOut 85 = .ok (.istore 5, 2) := by decide +kernel
theorem dX3_goOut_87 : decode cX3_goOut 87 = .ok (.aload_n 0, 1) := by decide +kernel
theorem dX3_goOut_88 : decode cX3_goOut 88 = .ok (.iload_n 1, 1) := by decide +kernel
theorem dX3_goOut_89 : decode cX3_goOut 89 = .ok (.iload_n 3, 1) := by decide +kernel
theorem dX3_goOut_90 : decode cX3_goOut 90 = .ok (.iconst 1, 1) := by decide +kernel
theorem dX3_goOut_91 : decode cX3_goOut 91 = .ok (.iadd, 1) := by decide +kernel
theorem dX3_goOut_92 : decode cX3_goOut 92 = .ok (.bipush 8, 2) := by decide +kernel
theorem dX3_goOut_94 : decode cX3_goOut 94 = .ok (.irem, 1) := by decide +kernel
theorem dX3_goOut_95 : decode cX3_goOut 95 = .ok (.iload 4, 2) := by decide +kernel
theorem dX3_goOut_97 : decode cX3_goOut 97 = .ok (.iload 5, 2) := by decide +kernel
theorem dX3_goOut_99 : decode cX3_goOut 99 = .ok (.invokevirtual 119, 3) := by decide +kernel
theorem dX3_goOut_102 : decode cX3_goOut 102 = .ok (.aload_n 0, 1) := by decide +kernel
theorem dX3_goOut_103 : decode cX3_goOut 103 = .ok (.iload_n 1, 1) := by decide +kernel
theorem dX3_goOut_104 : decode cX3_goOut 104 = .ok (.iload_n 3, 1) := by decide +kernel
theorem dX3_goOut_105 : decode cX3_goOut 105 = .ok (.bipush 8, 2) := by decide +kernel
theorem dX3_goOut_107 : decode cX3_goOut 107 = .ok (.iadd, 1) := by decide +kernel
theorem dX3_goOut_108 : decode cX3_goOut 108 = .ok (.iconst 1, 1) := by decide +kernel
theorem dX3_goOut_109 : decode cX3_goOut 109 = .ok (.isub, 1) := by decide +kernel
theorem dX3_goOut_110 : decode cX3_goOut 110 = .ok (.bipush 8, 2) := by decide +kernel
theorem dX3_goOut_112 : decode cX3_goOut 112 = .ok (.irem, 1) := by decide +kernel
theorem dX3_goOut_113 : decode cX3_goOut 113 = .ok (.iload 4, 2) := by decide +kernel
theorem dX3_goOut_115 : decode cX3_goOut 115 = .ok (.iload 5, 2) := by decide +kernel
theorem dX3_goOut_117 : decode cX3_goOut 117 = .ok (.invokevirtual 119, 3) := by decide +kernel
theorem dX3_goOut_120 : decode cX3_goOut 120 = .ok (.aload_n 0, 1) := by decide +kernel
theorem dX3_goOut_121 : decode cX3_goOut 121 = .ok (.iload_n 1, 1) := by decide +kernel
theorem dX3_goOut_122 : decode cX3_goOut 122 = .ok (.iload_n 3, 1) := by decide +kernel
theorem dX3_goOut_123 : decode cX3_goOut 123 = .ok (.iload 4, 2) := by decide +kernel
theorem dX3_goOut_125 : decode cX3_goOut 125 = .ok (.iconst 1, 1) := by decide +kernel
theorem dX3_goOut_126 : decode cX3_goOut 126 = .ok (.iadd, 1) := by decide +kernel
theorem dX3_goOut_127 : decode cX3_goOut 127 = .ok (.iload 5, 2) := by decide +kernel
theorem dX3_goOut_129 : decode cX3_goOut 129 = .ok (.invokevirtual 119, 3) := by decide +kernel
theorem dX3_goOut_132 : decode cX3_goOut 132 = .ok (.aload_n 0, 1) := by decide +kernel
theorem dX3_goOut_133 : decode cX3_goOut 133 = .ok (.iload_n 1, 1) := by decide +kernel
theorem dX3_goOut_134 : decode cX3_goOut 134 = .ok (.iload_n 3, 1) := by decide +kernel
theorem dX3_goOut_135 : decode cX3_goOut 135 = .ok (.iload 4, 2) := by decide +kernel
theorem dX3_goOut_137 : decode cX3_goOut 137 = .ok (.iconst 1, 1) := by decide +kernel
theorem dX3_goOut_138 : decode cX3_goOut 138 = .ok (.isub, 1) := by decide +kernel
theorem dX3_goOut_139 : decode cX3_goOut 139 = .ok (.iload 5, 2) := by decide +kernel
theorem dX3_goOut_141 : decode cX3_goOut 141 = .ok (.invokevirtual 119, 3) := by decide +kernel
theorem dX3_goOut_144 : decode cX3_goOut 144 = .ok (.iinc 2 1, 3) := by decide +kernel
theorem dX3_goOut_147 : decode cX3_goOut 147 = .ok (.goto (-104), 3) := by decide +kernel
theorem dX3_goOut_150 : decode cX3_goOut 150 = .ok (.return_, 1) := by decide +kernel
set_option maxRecDepth 20000 in
theorem ggX3_fewestMoves_X3_isDirection : GoodIn wsX3_fewestMoves wsX3_isDirection := goodIn_r _ [6, 7, 8, 5, 9] (by decide +kernel) (by decide +kernel)
set_option maxRecDepth 20000 in
theorem gX3_fewestMoves_X3_isDirection : GoodIn wsX3_fewestMoves (va_wsS RX3 100 yX3_isDirection wsX3_isDirection) := goodIn_app (goodIn_of _ (by decide +kernel)) ggX3_fewestMoves_X3_isDirection
set_option maxRecDepth 20000 in
theorem ggX3_fewestMoves_X3_no : GoodIn wsX3_fewestMoves wsX3_no := goodIn_r _ [13, 1, 51, 52, 53, 54, 55, 56, 57, 58, 59, 60, 61, 62, 63] (by decide +kernel) (by decide +kernel)
set_option maxRecDepth 20000 in
theorem gX3_fewestMoves_X3_no : GoodIn wsX3_fewestMoves (wsV RX3 62 RX3 yX3_no wsX3_no) := goodIn_app (goodIn_of _ (by decide +kernel)) ggX3_fewestMoves_X3_no
set_option maxRecDepth 20000 in
theorem ggX3_fewestMoves_X3_isLoad : GoodIn wsX3_fewestMoves wsX3_isLoad := goodIn_r _ [16, 7, 8, 5, 9] (by decide +kernel) (by decide +kernel)
set_option maxRecDepth 20000 in
theorem gX3_fewestMoves_X3_isLoad : GoodIn wsX3_fewestMoves (va_wsS RX3 75 yX3_isLoad wsX3_isLoad) := goodIn_app (goodIn_of _ (by decide +kernel)) ggX3_fewestMoves_X3_isLoad
set_option maxRecDepth 20000 in
theorem ggX3_fewestMoves_X3_isReach : GoodIn wsX3_fewestMoves wsX3_isReach := goodIn_r _ [19, 7, 8, 5, 9] (by decide +kernel) (by decide +kernel)
set_option maxRecDepth 20000 in
theorem gX3_fewestMoves_X3_isReach : GoodIn wsX3_fewestMoves (va_wsS RX3 72 yX3_isReach wsX3_isReach) := goodIn_app (goodIn_of _ (by decide +kernel)) ggX3_fewestMoves_X3_isReach
set_option maxRecDepth 20000 in
theorem ggX3_fewestMoves_X3_goOut : GoodIn wsX3_fewestMoves wsX3_goOut := goodIn_r _ [23, 2, 24, 25, 26, 27, 28, 29, 30, 5, 31, 17, 18, 19, 7, 8, 9, 32, 33, 34, 35, 36, 37, 38, 39, 40, 41, 42, 43, 44, 45, 46, 47, 48, 49, 50, 51, 52, 53, 54, 55, 56, 57, 58, 59, 60, 61, 62, 63] (by decide +kernel) (by decide +kernel)
set_option maxRecDepth 20000 in
theorem gX3_fewestMoves_X3_goOut : GoodIn wsX3_fewestMoves (wsV RX3 123 RX3 yX3_goOut wsX3_goOut) := goodIn_app (goodIn_of _ (by decide +kernel)) ggX3_fewestMoves_X3_goOut
theorem dX3_fewestMoves_0 : decode cX3_fewestMoves 0 = .ok (.aload_n 0, 1) := by decide +kernel
theorem dX3_fewestMoves_1 : decode cX3_fewestMoves 1 = .ok (.iconst 0, 1) := by decide +kernel
theorem dX3_fewestMoves_2 : decode cX3_fewestMoves 2 = .ok (.putfield 26, 3) := by decide +kernel
theorem dX3_fewestMoves_5 : decode cX3_fewestMoves 5 = .ok (.iload_n 2, 1) := by decide +kernel
theorem dX3_fewestMoves_6 : decode cX3_fewestMoves 6 = .ok (.invokestatic 100, 3) := by decide +kernel
theorem dX3_fewestMoves_9 : decode cX3_fewestMoves 9 = .ok (.ifCond .ne 9, 3) := by decide +kernel
theorem dX3_fewestMoves_12 : decode cX3_fewestMoves 12 = .ok (.aload_n 0, 1) := by decide +kernel
theorem dX3_fewestMoves_13 : decode cX3_fewestMoves 13 = .ok (.iconst 1, 1) := by decide +kernel
theorem dX3_fewestMoves_14 : decode cX3_fewestMoves 14 = .ok (.invokevirtual 62, 3) := by decide +kernel
theorem dX3_fewestMoves_17 : decode cX3_fewestMoves 17 = .ok (.ireturn, 1) := by decide +kernel
theorem dX3_fewestMoves_18 : decode cX3_fewestMoves 18 = .ok (.iload_n 1, 1) := by decide +kernel
theorem dX3_fewestMoves_19 : decode cX3_fewestMoves 19 = .ok (.invokestatic 75, 3) := by decide +kernel
theorem dX3_fewestMoves_22 : decode cX3_fewestMoves 22 = .ok (.ifCond .eq 10, 3) := by decide +kernel
theorem dX3_fewestMoves_25 : decode cX3_fewestMoves 25 = .ok (.iload_n 3, 1) := by decide +kernel
theorem dX3_fewestMoves_26 : decode cX3_fewestMoves 26 = .ok (.invokestatic 72, 3) := by decide +kernel
theorem dX3_fewestMoves_29 : decode cX3_fewestMoves 29 = .ok (.ifCond .ne 9, 3) := by decide +kernel
theorem dX3_fewestMoves_32 : decode cX3_fewestMoves 32 = .ok (.aload_n 0, 1) := by decide +kernel
theorem dX3_fewestMoves_33 : decode cX3_fewestMoves 33 = .ok (.iconst 2, 1) := by decide +kernel
theorem dX3_fewestMoves_34 : decode cX3_fewestMoves 34 = .ok (.invokevirtual 62, 3) := by decide +kernel
theorem dX3_fewestMoves_37 : decode cX3_fewestMoves 37 = .ok (.ireturn, 1) := by decide +kernel
theorem dX3_fewestMoves_38 : decode cX3_fewestMoves 38 = .ok (.aload_n 0, 1) := by decide +kernel
theorem dX3_fewestMoves_39 : decode cX3_fewestMoves 39 = .ok (.iload_n 1, 1) := by decide +kernel
theorem dX3_fewestMoves_40 : decode cX3_fewestMoves 40 = .ok (.invokevirtual 123, 3) := by decide +kernel
theorem dX3_fewestMoves_43 : decode cX3_fewestMoves 43 = .ok (.aload_n 0, 1) := by decide +kernel
theorem dX3_fewestMoves_44 : decode cX3_fewestMoves 44 = .ok (.getfield 20, 3) := by decide +kernel
theorem dX3_fewestMoves_47 : decode cX3_fewestMoves 47 = .ok (.bipush 8, 2) := by decide +kernel
theorem dX3_fewestMoves_49 : decode cX3_fewestMoves 49 = .ok (.iload_n 3, 1) := by decide +kernel
theorem dX3_fewestMoves_50 : decode cX3_fewestMoves 50 = .ok (.imul, 1) := by decide +kernel
theorem dX3_fewestMoves_51 : decode cX3_fewestMoves 51 = .ok (.iload_n 2, 1) := by decide +kernel
theorem dX3_fewestMoves_52 : decode cX3_fewestMoves 52 = .ok (.iadd, 1) := by decide +kernel
theorem dX3_fewestMoves_53 : decode cX3_fewestMoves 53 = .ok (.iaload, 1) := by decide +kernel
theorem dX3_fewestMoves_54 : decode cX3_fewestMoves 54 = .ok (.ireturn, 1) := by decide +kernel
set_option maxRecDepth 20000 in
theorem ggX3_within_X3_goOut : GoodIn wsX3_within wsX3_goOut := goodIn_r _ [6, 7, 1, 8, 9, 10, 11, 12, 13, 5, 14, 15, 16, 17, 18, 19, 20, 21, 22, 23, 24, 25, 26, 27, 28, 29, 30, 31, 32, 33, 34, 35, 36, 37, 38, 39, 40, 41, 42, 43, 44, 45, 46, 47, 48, 49, 50, 51, 52] (by decide +kernel) (by decide +kernel)
set_option maxRecDepth 20000 in
theorem gX3_within_X3_goOut : GoodIn wsX3_within (wsV RX3 123 RX3 yX3_goOut wsX3_goOut) := goodIn_app (goodIn_of _ (by decide +kernel)) ggX3_within_X3_goOut
theorem dX3_within_0 : decode cX3_within 0 = .ok (.aload_n 0, 1) := by decide +kernel
theorem dX3_within_1 : decode cX3_within 1 = .ok (.iload_n 1, 1) := by decide +kernel
theorem dX3_within_2 : decode cX3_within 2 = .ok (.invokevirtual 123, 3) := by decide +kernel
theorem dX3_within_5 : decode cX3_within 5 = .ok (.aload_n 0, 1) := by decide +kernel
theorem dX3_within_6 : decode cX3_within 6 = .ok (.getfield 116, 3) := by decide +kernel
theorem dX3_within_9 : decode cX3_within 9 = .ok (.ireturn, 1) := by decide +kernel
set_option maxRecDepth 20000 in
theorem ggX3_placesWithin_X3_isLoad : GoodIn wsX3_placesWithin wsX3_isLoad := goodIn_r _ [5, 6, 7, 4, 8] (by decide +kernel) (by decide +kernel)
set_option maxRecDepth 20000 in
theorem gX3_placesWithin_X3_isLoad : GoodIn wsX3_placesWithin (va_wsS RX3 75 yX3_isLoad wsX3_isLoad) := goodIn_app (goodIn_of _ (by decide +kernel)) ggX3_placesWithin_X3_isLoad
set_option maxRecDepth 20000 in
theorem ggX3_placesWithin_X3_within : GoodIn wsX3_placesWithin wsX3_within := goodIn_r _ [12, 13, 14, 15, 16, 4, 17, 18, 19, 20, 21, 22, 23, 24, 25, 26, 27, 28, 6, 7, 8, 29, 30, 31, 32, 33, 34, 35, 36, 37, 38, 39, 40, 41, 42, 43, 44, 45, 46, 47, 52, 53, 54, 55, 56, 57, 58, 59, 60, 61, 62, 63, 64] (by decide +kernel) (by decide +kernel)
set_option maxRecDepth 20000 in
theorem gX3_placesWithin_X3_within : GoodIn wsX3_placesWithin (wsV RX3 127 RX3 yX3_within wsX3_within) := goodIn_app (goodIn_of _ (by decide +kernel)) ggX3_placesWithin_X3_within
set_option maxRecDepth 20000 in
theorem ggX3_placesWithin_X3_no : GoodIn wsX3_placesWithin wsX3_no := goodIn_r _ [51, 1, 52, 53, 54, 55, 56, 57, 58, 59, 60, 61, 62, 63, 64] (by decide +kernel) (by decide +kernel)
set_option maxRecDepth 20000 in
theorem gX3_placesWithin_X3_no : GoodIn wsX3_placesWithin (wsV RX3 62 RX3 yX3_no wsX3_no) := goodIn_app (goodIn_of _ (by decide +kernel)) ggX3_placesWithin_X3_no
theorem dX3_placesWithin_0 : decode cX3_placesWithin 0 = .ok (.aload_n 0, 1) := by decide +kernel
theorem dX3_placesWithin_1 : decode cX3_placesWithin 1 = .ok (.iconst 0, 1) := by decide +kernel
theorem dX3_placesWithin_2 : decode cX3_placesWithin 2 = .ok (.putfield 26, 3) := by decide +kernel
theorem dX3_placesWithin_5 : decode cX3_placesWithin 5 = .ok (.iload_n 1, 1) := by decide +kernel
theorem dX3_placesWithin_6 : decode cX3_placesWithin 6 = .ok (.invokestatic 75, 3) := by decide +kernel
theorem dX3_placesWithin_9 : decode cX3_placesWithin 9 = .ok (.ifCond .eq 11, 3) := by decide +kernel
theorem dX3_placesWithin_12 : decode cX3_placesWithin 12 = .ok (.aload_n 0, 1) := by decide +kernel
theorem dX3_placesWithin_13 : decode cX3_placesWithin 13 = .ok (.iload_n 1, 1) := by decide +kernel
theorem dX3_placesWithin_14 : decode cX3_placesWithin 14 = .ok (.invokevirtual 127, 3) := by decide +kernel
theorem dX3_placesWithin_17 : decode cX3_placesWithin 17 = .ok (.goto 8, 3) := by decide +kernel
theorem dX3_placesWithin_20 : decode cX3_placesWithin 20 = .ok (.aload_n 0, 1) := by decide +kernel
theorem dX3_placesWithin_21 : decode cX3_placesWithin 21 = .ok (.iconst 1, 1) := by decide +kernel
theorem dX3_placesWithin_22 : decode cX3_placesWithin 22 = .ok (.invokevirtual 62, 3) := by decide +kernel
theorem dX3_placesWithin_25 : decode cX3_placesWithin 25 = .ok (.ireturn, 1) := by decide +kernel
set_option maxRecDepth 20000 in
theorem ggX3_bestOutrigger_X3_isLoad : GoodIn wsX3_bestOutrigger wsX3_isLoad := goodIn_r _ [6, 7, 8, 5, 9] (by decide +kernel) (by decide +kernel)
set_option maxRecDepth 20000 in
theorem gX3_bestOutrigger_X3_isLoad : GoodIn wsX3_bestOutrigger (va_wsS RX3 75 yX3_isLoad wsX3_isLoad) := goodIn_app (goodIn_of _ (by decide +kernel)) ggX3_bestOutrigger_X3_isLoad
set_option maxRecDepth 20000 in
theorem ggX3_bestOutrigger_X3_no : GoodIn wsX3_bestOutrigger wsX3_no := goodIn_r _ [13, 1, 52, 53, 54, 55, 56, 57, 58, 59, 60, 61, 62, 63, 64] (by decide +kernel) (by decide +kernel)
set_option maxRecDepth 20000 in
theorem gX3_bestOutrigger_X3_no : GoodIn wsX3_bestOutrigger (wsV RX3 62 RX3 yX3_no wsX3_no) := goodIn_app (goodIn_of _ (by decide +kernel)) ggX3_bestOutrigger_X3_no
set_option maxRecDepth 20000 in
theorem ggX3_bestOutrigger_X3_within : GoodIn wsX3_bestOutrigger wsX3_within := goodIn_r _ [17, 18, 19, 20, 21, 5, 22, 23, 24, 25, 26, 27, 28, 29, 30, 31, 32, 33, 7, 8, 9, 34, 35, 36, 37, 38, 39, 40, 41, 42, 43, 44, 45, 46, 47, 48, 49, 50, 2, 51, 52, 53, 54, 55, 56, 57, 58, 59, 60, 61, 62, 63, 64] (by decide +kernel) (by decide +kernel)
set_option maxRecDepth 20000 in
theorem gX3_bestOutrigger_X3_within : GoodIn wsX3_bestOutrigger (wsV RX3 127 RX3 yX3_within wsX3_within) := goodIn_app (goodIn_of _ (by decide +kernel)) ggX3_bestOutrigger_X3_within
theorem dX3_bestOutrigger_0 : decode cX3_bestOutrigger 0 = .ok (.aload_n 0, 1) := by decide +kernel
theorem dX3_bestOutrigger_1 : decode cX3_bestOutrigger 1 = .ok (.iconst 0, 1) := by decide +kernel
theorem dX3_bestOutrigger_2 : decode cX3_bestOutrigger 2 = .ok (.putfield 26, 3) := by decide +kernel
theorem dX3_bestOutrigger_5 : decode cX3_bestOutrigger 5 = .ok (.iload_n 1, 1) := by decide +kernel
theorem dX3_bestOutrigger_6 : decode cX3_bestOutrigger 6 = .ok (.invokestatic 75, 3) := by decide +kernel
theorem dX3_bestOutrigger_9 : decode cX3_bestOutrigger 9 = .ok (.ifCond .ne 9, 3) := by decide +kernel
theorem dX3_bestOutrigger_12 : decode cX3_bestOutrigger 12 = .ok (.aload_n 0, 1) := by decide +kernel
theorem dX3_bestOutrigger_13 : decode cX3_bestOutrigger 13 = .ok (.iconst 1, 1) := by decide +kernel
theorem dX3_bestOutrigger_14 : decode cX3_bestOutrigger 14 = .ok (.invokevirtual 62, 3) := by decide +kernel
theorem dX3_bestOutrigger_17 : decode cX3_bestOutrigger 17 = .ok (.ireturn, 1) := by decide +kernel
theorem dX3_bestOutrigger_18 : decode cX3_bestOutrigger 18 = .ok (.iconst (-1), 1) := by decide +kernel
theorem dX3_bestOutrigger_19 : decode cX3_bestOutrigger 19 = .ok (.istore_n 2, 1) := by decide +kernel
theorem dX3_bestOutrigger_20 : decode cX3_bestOutrigger 20 = .ok (.iconst (-1), 1) := by decide +kernel
theorem dX3_bestOutrigger_21 : decode cX3_bestOutrigger 21 = .ok (.istore_n 3, 1) := by decide +kernel
theorem dX3_bestOutrigger_22 : decode cX3_bestOutrigger 22 = .ok (.iconst 0, 1) := by decide +kernel
theorem dX3_bestOutrigger_23 : decode cX3_bestOutrigger 23 = .ok (.istore 4, 2) := by decide +kernel
theorem dX3_bestOutrigger_25 : decode cX3_bestOutrigger 25 = .ok (.iload 4, 2) := by decide +kernel
theorem dX3_bestOutrigger_27 : decode cX3_bestOutrigger 27 = .ok (.iconst 4, 1) := by decide +kernel
theorem dX3_bestOutrigger_28 : decode cX3_bestOutrigger 28 = .ok (.if_icmp .ge 68, 3) := by decide +kernel
theorem dX3_bestOutrigger_31 : decode cX3_bestOutrigger 31 = .ok (.aload_n 0, 1) := by decide +kernel
theorem dX3_bestOutrigger_32 : decode cX3_bestOutrigger 32 = .ok (.getfield 13, 3) := by decide +kernel
theorem dX3_bestOutrigger_35 : decode cX3_bestOutrigger 35 = .ok (.iload 4, 2) := by decide +kernel
theorem dX3_bestOutrigger_37 : decode cX3_bestOutrigger 37 = .ok (.iaload, 1) := by decide +kernel
theorem dX3_bestOutrigger_38 : decode cX3_bestOutrigger 38 = .ok (.bipush 6, 2) := by decide +kernel
theorem dX3_bestOutrigger_40 : decode cX3_bestOutrigger 40 = .ok (.if_icmp .ne 6, 3) := by decide +kernel
theorem dX3_bestOutrigger_43 : decode cX3_bestOutrigger 43 = .ok (.goto 47, 3) := by decide +kernel
theorem dX3_bestOutrigger_46 : decode cX3_bestOutrigger 46 = .ok (.aload_n 0, 1) := by decide +kernel
theorem dX3_bestOutrigger_47 : decode cX3_bestOutrigger 47 = .ok (.getfield 13, 3) := by decide +kernel
theorem dX3_bestOutrigger_50 : decode cX3_bestOutrigger 50 = .ok (.iload 4, 2) := by decide +kernel
theorem dX3_bestOutrigger_52 : decode cX3_bestOutrigger 52 = .ok (.dup2, 1) := by decide +kernel
theorem dX3_bestOutrigger_53 : decode cX3_bestOutrigger 53 = .ok (.iaload, 1) := by decide +kernel
theorem dX3_bestOutrigger_54 : decode cX3_bestOutrigger 54 = .ok (.iconst 1, 1) := by decide +kernel
theorem dX3_bestOutrigger_55 : decode cX3_bestOutrigger 55 = .ok (.iadd, 1) := by decide +kernel
theorem dX3_bestOutrigger_56 : decode cX3_bestOutrigger 56 = .ok (.iastore, 1) := by decide +kernel
theorem dX3_bestOutrigger_57 : decode cX3_bestOutrigger 57 = .ok (.aload_n 0, 1) := by decide +kernel
theorem dX3_bestOutrigger_58 : decode cX3_bestOutrigger 58 = .ok (.iload_n 1, 1) := by decide +kernel
theorem dX3_bestOutrigger_59 : decode cX3_bestOutrigger 59 = .ok (.invokevirtual 127, 3) := by decide +kernel
theorem dX3_bestOutrigger_62 : decode cX3_bestOutrigger 62 = .ok (.istore 5, 2) := by decide +kernel
theorem dX3_bestOutrigger_64 : decode cX3_bestOutrigger 64 = .ok (.aload_n 0, 1) := by decide +kernel
theorem dX3_bestOutrigger_65 : decode cX3_bestOutrigger 65 = .ok (.getfield 13, 3) := by decide +kernel
theorem dX3_bestOutrigger_68 : decode cX3_bestOutrigger 68 = .ok (.iload 4, 2) := by decide +kernel
theorem dX3_bestOutrigger_70 : decode cX3_bestOutrigger 70 = .ok (.dup2, 1) := by decide +kernel
theorem dX3_bestOutrigger_71 : decode cX3_bestOutrigger 71 = .ok (.iaload, 1) := by decide +kernel
theorem dX3_bestOutrigger_72 : decode cX3_bestOutrigger 72 = .ok (.iconst 1, 1) := by decide +kernel
theorem dX3_bestOutrigger_73 : decode cX3_bestOutrigger 73 = .ok (.isub, 1) := by decide +kernel
theorem dX3_bestOutrigger_74 : decode cX3_bestOutrigger 74 = .ok (.iastore, 1) := by decide +kernel
theorem dX3_bestOutrigger_75 : decode cX3_bestOutrigger 75 = .ok (.iload 5, 2) := by decide +kernel
theorem dX3_bestOutrigger_77 : decode cX3_bestOutrigger 77 = .ok (.iload_n 3, 1) := by decide +kernel
theorem dX3_bestOutrigger_78 : decode cX3_bestOutrigger 78 = .ok (.if_icmp .gt 6, 3) := by decide +kernel
theorem dX3_bestOutrigger_81 : decode cX3_bestOutrigger 81 = .ok (.goto 9, 3) := by decide +kernel
theorem dX3_bestOutrigger_84 : decode cX3_bestOutrigger 84 = .ok (.iload 4, 2) := by decide +kernel
theorem dX3_bestOutrigger_86 : decode cX3_bestOutrigger 86 = .ok (.istore_n 2, 1) := by decide +kernel
theorem dX3_bestOutrigger_87 : decode cX3_bestOutrigger 87 = .ok (.iload 5, 2) := by decide +kernel
theorem dX3_bestOutrigger_89 : decode cX3_bestOutrigger 89 = .ok (.istore_n 3, 1) := by decide +kernel
theorem dX3_bestOutrigger_90 : decode cX3_bestOutrigger 90 = .ok (.iinc 4 1, 3) := by decide +kernel
theorem dX3_bestOutrigger_93 : decode cX3_bestOutrigger 93 = .ok (.goto (-68), 3) := by decide +kernel
theorem dX3_bestOutrigger_96 : decode cX3_bestOutrigger 96 = .ok (.iload_n 2, 1) := by decide +kernel
theorem dX3_bestOutrigger_97 : decode cX3_bestOutrigger 97 = .ok (.ireturn, 1) := by decide +kernel
theorem dX3_meanLoad_0 : decode cX3_meanLoad 0 = .ok (.aload_n 0, 1) := by decide +kernel
theorem dX3_meanLoad_1 : decode cX3_meanLoad 1 = .ok (.iconst 0, 1) := by decide +kernel
theorem dX3_meanLoad_2 : decode cX3_meanLoad 2 = .ok (.putfield 26, 3) := by decide +kernel
theorem dX3_meanLoad_5 : decode cX3_meanLoad 5 = .ok (.aload_n 0, 1) := by decide +kernel
theorem dX3_meanLoad_6 : decode cX3_meanLoad 6 = .ok (.getfield 78, 3) := by decide +kernel
theorem dX3_meanLoad_9 : decode cX3_meanLoad 9 = .ok (.ifCond .ne 7, 3) := by decide +kernel
theorem dX3_meanLoad_12 : decode cX3_meanLoad 12 = .ok (.dconst 0, 1) := by decide +kernel
theorem dX3_meanLoad_13 : decode cX3_meanLoad 13 = .ok (.goto 14, 3) := by decide +kernel
theorem dX3_meanLoad_16 : decode cX3_meanLoad 16 = .ok (.aload_n 0, 1) := by decide +kernel
theorem dX3_meanLoad_17 : decode cX3_meanLoad 17 = .ok (.getfield 81, 3) := by decide +kernel
theorem dX3_meanLoad_20 : decode cX3_meanLoad 20 = .ok (.i2d, 1) := by decide +kernel
theorem dX3_meanLoad_21 : decode cX3_meanLoad 21 = .ok (.aload_n 0, 1) := by decide +kernel
theorem dX3_meanLoad_22 : decode cX3_meanLoad 22 = .ok (.getfield 78, 3) := by decide +kernel
theorem dX3_meanLoad_25 : decode cX3_meanLoad 25 = .ok (.i2d, 1) := by decide +kernel
theorem dX3_meanLoad_26 : decode cX3_meanLoad 26 = .ok (.ddiv, 1) := by decide +kernel
theorem dX3_meanLoad_27 : decode cX3_meanLoad 27 = .ok (.dreturn, 1) := by decide +kernel
set_option maxRecDepth 20000 in
theorem ggX3_digest_X3_weakest : GoodIn wsX3_digest wsX3_weakest := goodIn_r _ [18, 19, 20, 21, 17, 22, 5, 3, 4, 23, 24, 25, 26, 27, 28, 29, 30, 31, 32, 33, 34, 12, 6, 47, 48, 49, 50, 51, 52, 53, 54, 55, 56, 57, 58, 59] (by decide +kernel) (by decide +kernel)
set_option maxRecDepth 20000 in
theorem gX3_digest_X3_weakest : GoodIn wsX3_digest (wsV RX3 96 RX3 yX3_weakest wsX3_weakest) := goodIn_app (goodIn_of _ (by decide +kernel)) ggX3_digest_X3_weakest
set_option maxRecDepth 20000 in
theorem ggX3_digest_X3_greatest : GoodIn wsX3_digest wsX3_greatest := goodIn_r _ [38, 3, 4, 39, 40, 41, 17, 42, 13, 23, 24, 25, 26, 27, 28, 29, 30, 31, 32, 33, 34, 12, 6, 47, 48, 49, 50, 51, 52, 53, 54, 55, 56, 57, 58, 59] (by decide +kernel) (by decide +kernel)
set_option maxRecDepth 20000 in
theorem gX3_digest_X3_greatest : GoodIn wsX3_digest (wsV RX3 106 RX3 yX3_greatest wsX3_greatest) := goodIn_app (goodIn_of _ (by decide +kernel)) ggX3_digest_X3_greatest
set_option maxRecDepth 20000 in
theorem ggX3_digest_X3_strainNow : GoodIn wsX3_digest wsX3_strainNow := goodIn_r _ [22, 5, 3, 4, 23, 24, 25, 17, 26, 27, 28, 29, 30, 31, 32, 33, 34, 12, 6, 47, 48, 49, 50, 51, 52, 53, 54, 55, 56, 57, 58, 59] (by decide +kernel) (by decide +kernel)
set_option maxRecDepth 20000 in
theorem gX3_digest_X3_strainNow : GoodIn wsX3_digest (wsV RX3 93 RX3 yX3_strainNow wsX3_strainNow) := goodIn_app (goodIn_of _ (by decide +kernel)) ggX3_digest_X3_strainNow
set_option maxRecDepth 20000 in
theorem ggX3_digest_X3_safeAround : GoodIn wsX3_digest wsX3_safeAround := goodIn_r _ [46, 39, 40, 41, 17, 42, 13, 23, 24, 25, 26, 27, 28, 29, 30, 31, 32, 33, 34, 12, 6, 47, 48, 49, 50, 51, 52, 53, 54, 55, 56, 57, 58, 59] (by decide +kernel) (by decide +kernel)
set_option maxRecDepth 20000 in
theorem gX3_digest_X3_safeAround : GoodIn wsX3_digest (wsV RX3 109 RX3 yX3_safeAround wsX3_safeAround) := goodIn_app (goodIn_of _ (by decide +kernel)) ggX3_digest_X3_safeAround
theorem dX3_digest_0 : decode cX3_digest 0 = .ok (.aload_n 0, 1) := by decide +kernel
theorem dX3_digest_1 : decode cX3_digest 1 = .ok (.iconst 0, 1) := by decide +kernel
theorem dX3_digest_2 : decode cX3_digest 2 = .ok (.putfield 26, 3) := by decide +kernel
theorem dX3_digest_5 : decode cX3_digest 5 = .ok (.bipush 9, 2) := by decide +kernel
theorem dX3_digest_7 : decode cX3_digest 7 = .ok (.newarray .int, 2) := by decide +kernel
theorem dX3_digest_9 : decode cX3_digest 9 = .ok (.dup, 1) := by decide +kernel
theorem dX3_digest_10 : decode cX3_digest 10 = .ok (.iconst 0, 1) := by decide +kernel
theorem dX3_digest_11 : decode cX3_digest 11 = .ok (.aload_n 0, 1) := by decide +kernel
theorem dX3_digest_12 : decode cX3_digest 12 = .ok (.getfield 56, 3) := by decide +kernel
theorem dX3_digest_15 : decode cX3_digest 15 = .ok (.iastore, 1) := by decide +kernel
theorem dX3_digest_16 : decode cX3_digest 16 = .ok (.dup, 1) := by decide +kernel
theorem dX3_digest_17 : decode cX3_digest 17 = .ok (.iconst 1, 1) := by decide +kernel
theorem dX3_digest_18 : decode cX3_digest 18 = .ok (.aload_n 0, 1) := by decide +kernel
theorem dX3_digest_19 : decode cX3_digest 19 = .ok (.getfield 9, 3) := by decide +kernel
theorem dX3_digest_22 : decode cX3_digest 22 = .ok (.iastore, 1) := by decide +kernel
theorem dX3_digest_23 : decode cX3_digest 23 = .ok (.dup, 1) := by decide +kernel
theorem dX3_digest_24 : decode cX3_digest 24 = .ok (.iconst 2, 1) := by decide +kernel
theorem dX3_digest_25 : decode cX3_digest 25 = .ok (.aload_n 0, 1) := by decide +kernel
theorem dX3_digest_26 : decode cX3_digest 26 = .ok (.getfield 53, 3) := by decide +kernel
theorem dX3_digest_29 : decode cX3_digest 29 = .ok (.iastore, 1) := by decide +kernel
theorem dX3_digest_30 : decode cX3_digest 30 = .ok (.dup, 1) := by decide +kernel
theorem dX3_digest_31 : decode cX3_digest 31 = .ok (.iconst 3, 1) := by decide +kernel
theorem dX3_digest_32 : decode cX3_digest 32 = .ok (.aload_n 0, 1) := by decide +kernel
theorem dX3_digest_33 : decode cX3_digest 33 = .ok (.getfield 46, 3) := by decide +kernel
theorem dX3_digest_36 : decode cX3_digest 36 = .ok (.iastore, 1) := by decide +kernel
theorem dX3_digest_37 : decode cX3_digest 37 = .ok (.dup, 1) := by decide +kernel
theorem dX3_digest_38 : decode cX3_digest 38 = .ok (.iconst 4, 1) := by decide +kernel
theorem dX3_digest_39 : decode cX3_digest 39 = .ok (.aload_n 0, 1) := by decide +kernel
theorem dX3_digest_40 : decode cX3_digest 40 = .ok (.invokevirtual 96, 3) := by decide +kernel
theorem dX3_digest_43 : decode cX3_digest 43 = .ok (.iastore, 1) := by decide +kernel
theorem dX3_digest_44 : decode cX3_digest 44 = .ok (.dup, 1) := by decide +kernel
theorem dX3_digest_45 : decode cX3_digest 45 = .ok (.iconst 5, 1) := by decide +kernel
theorem dX3_digest_46 : decode cX3_digest 46 = .ok (.aload_n 0, 1) := by decide +kernel
theorem dX3_digest_47 : decode cX3_digest 47 = .ok (.getfield 78, 3) := by decide +kernel
theorem dX3_digest_50 : decode cX3_digest 50 = .ok (.iastore, 1) := by decide +kernel
theorem dX3_digest_51 : decode cX3_digest 51 = .ok (.dup, 1) := by decide +kernel
theorem dX3_digest_52 : decode cX3_digest 52 = .ok (.bipush 6, 2) := by decide +kernel
theorem dX3_digest_54 : decode cX3_digest 54 = .ok (.aload_n 0, 1) := by decide +kernel
theorem dX3_digest_55 : decode cX3_digest 55 = .ok (.getfield 81, 3) := by decide +kernel
theorem dX3_digest_58 : decode cX3_digest 58 = .ok (.iastore, 1) := by decide +kernel
theorem dX3_digest_59 : decode cX3_digest 59 = .ok (.dup, 1) := by decide +kernel
theorem dX3_digest_60 : decode cX3_digest 60 = .ok (.bipush 7, 2) := by decide +kernel
theorem dX3_digest_62 : decode cX3_digest 62 = .ok (.aload_n 0, 1) := by decide +kernel
theorem dX3_digest_63 : decode cX3_digest 63 = .ok (.getfield 84, 3) := by decide +kernel
theorem dX3_digest_66 : decode cX3_digest 66 = .ok (.iastore, 1) := by decide +kernel
theorem dX3_digest_67 : decode cX3_digest 67 = .ok (.dup, 1) := by decide +kernel
theorem dX3_digest_68 : decode cX3_digest 68 = .ok (.bipush 8, 2) := by decide +kernel
theorem dX3_digest_70 : decode cX3_digest 70 = .ok (.aload_n 0, 1) := by decide +kernel
theorem dX3_digest_71 : decode cX3_digest 71 = .ok (.invokevirtual 106, 3) := by decide +kernel
theorem dX3_digest_74 : decode cX3_digest 74 = .ok (.iastore, 1) := by decide +kernel
theorem dX3_digest_75 : decode cX3_digest 75 = .ok (.astore_n 1, 1) := by decide +kernel
theorem dX3_digest_76 : decode cX3_digest 76 = .ok (.ldc2_w 130, 3) := by decide +kernel
theorem dX3_digest_79 : decode cX3_digest 79 = .ok (.lstore_n 2, 1) := by decide +kernel
theorem dX3_digest_80 : decode cX3_digest 80 = .ok (.aload_n 1, 1) := by decide +kernel
theorem dX3_digest_81 : decode cX3_digest 81 = .ok (.astore 4, 2) := by decide +kernel
theorem dX3_digest_83 : decode cX3_digest 83 = .ok (.aload 4, 2) := by decide +kernel
theorem dX3_digest_85 : decode cX3_digest 85 = .ok (.arraylength, 1) := by decide +kernel
theorem dX3_digest_86 : decode cX3_digest 86 = .ok (.istore 5, 2) := by decide +kernel
theorem dX3_digest_88 : decode cX3_digest 88 = .ok (.iconst 0, 1) := by decide +kernel
theorem dX3_digest_89 : decode cX3_digest 89 = .ok (.istore 6, 2) := by decide +kernel
theorem dX3_digest_91 : decode cX3_digest 91 = .ok (.iload 6, 2) := by decide +kernel
theorem dX3_digest_93 : decode cX3_digest 93 = .ok (.iload 5, 2) := by decide +kernel
theorem dX3_digest_95 : decode cX3_digest 95 = .ok (.if_icmp .ge 26, 3) := by decide +kernel
theorem dX3_digest_98 : decode cX3_digest 98 = .ok (.aload 4, 2) := by decide +kernel
theorem dX3_digest_100 : decode cX3_digest 100 = .ok (.iload 6, 2) := by decide +kernel
theorem dX3_digest_102 : decode cX3_digest 102 = .ok (.iaload, 1) := by decide +kernel
theorem dX3_digest_103 : decode cX3_digest 103 = .ok (.istore 7, 2) := by decide +kernel
theorem dX3_digest_105 : decode cX3_digest 105 = .ok (.lload_n 2, 1) := by decide +kernel
theorem dX3_digest_106 : decode cX3_digest 106 = .ok (.ldc2_w 132, 3) := by decide +kernel
theorem dX3_digest_109 : decode cX3_digest 109 = .ok (.lmul, 1) := by decide +kernel
theorem dX3_digest_110 : decode cX3_digest 110 = .ok (.iload 7, 2) := by decide +kernel
theorem dX3_digest_112 : decode cX3_digest 112 = .ok (.i2l, 1) := by decide +kernel
theorem dX3_digest_113 : decode cX3_digest 113 = .ok (.ladd, 1) := by decide +kernel
theorem dX3_digest_114 : decode cX3_digest 114 = .ok (.lstore_n 2, 1) := by decide +kernel
theorem dX3_digest_115 : decode cX3_digest 115 = .ok (.iinc 6 1, 3) := by decide +kernel
theorem dX3_digest_118 : decode cX3_digest 118 = .ok (.goto (-27), 3) := by decide +kernel
theorem dX3_digest_121 : decode cX3_digest 121 = .ok (.iconst 0, 1) := by decide +kernel
theorem dX3_digest_122 : decode cX3_digest 122 = .ok (.istore 4, 2) := by decide +kernel
theorem dX3_digest_124 : decode cX3_digest 124 = .ok (.iload 4, 2) := by decide +kernel
theorem dX3_digest_126 : decode cX3_digest 126 = .ok (.iconst 4, 1) := by decide +kernel
theorem dX3_digest_127 : decode cX3_digest 127 = .ok (.if_icmp .ge 36, 3) := by decide +kernel
theorem dX3_digest_130 : decode cX3_digest 130 = .ok (.lload_n 2, 1) := by decide +kernel
theorem dX3_digest_131 : decode cX3_digest 131 = .ok (.ldc2_w 132, 3) := by decide +kernel
theorem dX3_digest_134 : decode cX3_digest 134 = .ok (.lmul, 1) := by decide +kernel
theorem dX3_digest_135 : decode cX3_digest 135 = .ok (.aload_n 0, 1) := by decide +kernel
theorem dX3_digest_136 : decode cX3_digest 136 = .ok (.getfield 13, 3) := by decide +kernel
theorem dX3_digest_139 : decode cX3_digest 139 = .ok (.iload 4, 2) := by decide +kernel
theorem dX3_digest_141 : decode cX3_digest 141 = .ok (.iaload, 1) := by decide +kernel
theorem dX3_digest_142 : decode cX3_digest 142 = .ok (.i2l, 1) := by decide +kernel
theorem dX3_digest_143 : decode cX3_digest 143 = .ok (.ladd, 1) := by decide +kernel
theorem dX3_digest_144 : decode cX3_digest 144 = .ok (.ldc2_w 132, 3) := by decide +kernel
theorem dX3_digest_147 : decode cX3_digest 147 = .ok (.lmul, 1) := by decide +kernel
theorem dX3_digest_148 : decode cX3_digest 148 = .ok (.aload_n 0, 1) := by decide +kernel
theorem dX3_digest_149 : decode cX3_digest 149 = .ok (.iload 4, 2) := by decide +kernel
theorem dX3_digest_151 : decode cX3_digest 151 = .ok (.invokevirtual 93, 3) := by decide +kernel
theorem dX3_digest_154 : decode cX3_digest 154 = .ok (.i2l, 1) := by decide +kernel
theorem dX3_digest_155 : decode cX3_digest 155 = .ok (.ladd, 1) := by decide +kernel
theorem dX3_digest_156 : decode cX3_digest 156 = .ok (.lstore_n 2, 1) := by decide +kernel
theorem dX3_digest_157 : decode cX3_digest 157 = .ok (.iinc 4 1, 3) := by decide +kernel
theorem dX3_digest_160 : decode cX3_digest 160 = .ok (.goto (-36), 3) := by decide +kernel
theorem dX3_digest_163 : decode cX3_digest 163 = .ok (.iconst 3, 1) := by decide +kernel
theorem dX3_digest_164 : decode cX3_digest 164 = .ok (.istore 4, 2) := by decide +kernel
theorem dX3_digest_166 : decode cX3_digest 166 = .ok (.iload 4, 2) := by decide +kernel
theorem dX3_digest_168 : decode cX3_digest 168 = .ok (.bipush 30, 2) := by decide +kernel
theorem dX3_digest_170 : decode cX3_digest 170 = .ok (.if_icmp .gt 37, 3) := by decide +kernel
theorem dX3_digest_173 : decode cX3_digest 173 = .ok (.lload_n 2, 1) := by decide +kernel
theorem dX3_digest_174 : decode cX3_digest 174 = .ok (.ldc2_w 132, 3) := by decide +kernel
theorem dX3_digest_177 : decode cX3_digest 177 = .ok (.lmul, 1) := by decide +kernel
theorem dX3_digest_178 : decode cX3_digest 178 = .ok (.aload_n 0, 1) := by decide +kernel
theorem dX3_digest_179 : decode cX3_digest 179 = .ok (.getfield 17, 3) := by decide +kernel
theorem dX3_digest_182 : decode cX3_digest 182 = .ok (.iload 4, 2) := by decide +kernel
theorem dX3_digest_184 : decode cX3_digest 184 = .ok (.iaload, 1) := by decide +kernel
theorem dX3_digest_185 : decode cX3_digest 185 = .ok (.i2l, 1) := by decide +kernel
theorem dX3_digest_186 : decode cX3_digest 186 = .ok (.ladd, 1) := by decide +kernel
theorem dX3_digest_187 : decode cX3_digest 187 = .ok (.ldc2_w 132, 3) := by decide +kernel
theorem dX3_digest_190 : decode cX3_digest 190 = .ok (.lmul, 1) := by decide +kernel
theorem dX3_digest_191 : decode cX3_digest 191 = .ok (.aload_n 0, 1) := by decide +kernel
theorem dX3_digest_192 : decode cX3_digest 192 = .ok (.iconst 5, 1) := by decide +kernel
theorem dX3_digest_193 : decode cX3_digest 193 = .ok (.iload 4, 2) := by decide +kernel
theorem dX3_digest_195 : decode cX3_digest 195 = .ok (.invokevirtual 109, 3) := by decide +kernel
theorem dX3_digest_198 : decode cX3_digest 198 = .ok (.i2l, 1) := by decide +kernel
theorem dX3_digest_199 : decode cX3_digest 199 = .ok (.ladd, 1) := by decide +kernel
theorem dX3_digest_200 : decode cX3_digest 200 = .ok (.lstore_n 2, 1) := by decide +kernel
theorem dX3_digest_201 : decode cX3_digest 201 = .ok (.iinc 4 1, 3) := by decide +kernel
theorem dX3_digest_204 : decode cX3_digest 204 = .ok (.goto (-38), 3) := by decide +kernel
theorem dX3_digest_207 : decode cX3_digest 207 = .ok (.lload_n 2, 1) := by decide +kernel
theorem dX3_digest_208 : decode cX3_digest 208 = .ok (.lreturn, 1) := by decide +kernel
theorem dJ9_abs_0f7a4_0 : decode cJ9_abs_0f7a4 0 = .ok (.iload_n 0, 1) := by decide +kernel
theorem dJ9_abs_0f7a4_1 : decode cJ9_abs_0f7a4 1 = .ok (.ifCond .ge 8, 3) := by decide +kernel
theorem dJ9_abs_0f7a4_4 : decode cJ9_abs_0f7a4 4 = .ok (.iload_n 0, 1) := by decide +kernel
theorem dJ9_abs_0f7a4_5 : decode cJ9_abs_0f7a4 5 = .ok (.ineg, 1) := by decide +kernel
theorem dJ9_abs_0f7a4_6 : decode cJ9_abs_0f7a4 6 = .ok (.goto 4, 3) := by decide +kernel
theorem dJ9_abs_0f7a4_9 : decode cJ9_abs_0f7a4 9 = .ok (.iload_n 0, 1) := by decide +kernel
theorem dJ9_abs_0f7a4_10 : decode cJ9_abs_0f7a4 10 = .ok (.ireturn, 1) := by decide +kernel
theorem dJ9_min_7cf53_0 : decode cJ9_min_7cf53 0 = .ok (.iload_n 0, 1) := by decide +kernel
theorem dJ9_min_7cf53_1 : decode cJ9_min_7cf53 1 = .ok (.iload_n 1, 1) := by decide +kernel
theorem dJ9_min_7cf53_2 : decode cJ9_min_7cf53 2 = .ok (.if_icmp .gt 7, 3) := by decide +kernel
theorem dJ9_min_7cf53_5 : decode cJ9_min_7cf53 5 = .ok (.iload_n 0, 1) := by decide +kernel
theorem dJ9_min_7cf53_6 : decode cJ9_min_7cf53 6 = .ok (.goto 4, 3) := by decide +kernel
theorem dJ9_min_7cf53_9 : decode cJ9_min_7cf53 9 = .ok (.iload_n 1, 1) := by decide +kernel
theorem dJ9_min_7cf53_10 : decode cJ9_min_7cf53 10 = .ok (.ireturn, 1) := by decide +kernel
