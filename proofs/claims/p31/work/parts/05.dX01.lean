theorem dX0_init_0 : decode cX0_init 0 = .ok (.aload_n 0, 1) := by decide +kernel
theorem dX0_init_1 : decode cX0_init 1 = .ok (.invokespecial 3, 3) := by decide +kernel
theorem dX0_init_4 : decode cX0_init 4 = .ok (.aload_n 0, 1) := by decide +kernel
theorem dX0_init_5 : decode cX0_init 5 = .ok (.sipush 224, 3) := by decide +kernel
theorem dX0_init_8 : decode cX0_init 8 = .ok (.newarray .int, 2) := by decide +kernel
theorem dX0_init_10 : decode cX0_init 10 = .ok (.putfield 9, 3) := by decide +kernel
theorem dX0_init_13 : decode cX0_init 13 = .ok (.aload_n 0, 1) := by decide +kernel
theorem dX0_init_14 : decode cX0_init 14 = .ok (.sipush 224, 3) := by decide +kernel
theorem dX0_init_17 : decode cX0_init 17 = .ok (.newarray .int, 2) := by decide +kernel
theorem dX0_init_19 : decode cX0_init 19 = .ok (.putfield 15, 3) := by decide +kernel
theorem dX0_init_22 : decode cX0_init 22 = .ok (.return_, 1) := by decide +kernel
set_option maxRecDepth 20000 in
theorem ggX0_spread_X0_visit : GoodIn wsX0_spread wsX0_visit := goodIn_r _ [8, 2, 1, 3, 9, 10, 7, 11, 12, 13, 14, 15, 16, 17, 18, 19, 20, 21, 22, 23, 24, 25, 26, 27, 28, 29, 30, 31, 32, 33, 34, 35, 36, 37, 38, 39, 40, 47, 48, 49, 50, 51, 52] (by decide +kernel) (by decide +kernel)
set_option maxRecDepth 20000 in
theorem gX0_spread_X0_visit : GoodIn wsX0_spread (wsV RX0 22 RX0 yX0_visit wsX0_visit) := goodIn_app (goodIn_of _ (by decide +kernel)) ggX0_spread_X0_visit
set_option maxRecDepth 20000 in
theorem ggX0_spread_X0_visitBeside : GoodIn wsX0_spread wsX0_visitBeside := goodIn_r _ [44, 2, 45, 13, 46, 4, 5, 6, 7, 8, 1, 3, 9, 10, 11, 12, 14, 15, 16, 17, 18, 19, 20, 21, 22, 23, 24, 25, 26, 27, 28, 29, 30, 31, 32, 33, 34, 35, 36, 37, 38, 39, 40, 47, 48, 49, 50, 51, 52] (by decide +kernel) (by decide +kernel)
set_option maxRecDepth 20000 in
theorem gX0_spread_X0_visitBeside : GoodIn wsX0_spread (wsV RX0 26 RX0 yX0_visitBeside wsX0_visitBeside) := goodIn_app (goodIn_of _ (by decide +kernel)) ggX0_spread_X0_visitBeside
theorem dX0_spread_0 : decode cX0_spread 0 = .ok (.aload_n 0, 1) := by decide +kernel
theorem dX0_spread_1 : decode cX0_spread 1 = .ok (.iconst 0, 1) := by decide +kernel
theorem dX0_spread_2 : decode cX0_spread 2 = .ok (.putfield 18, 3) := by decide +kernel
theorem dX0_spread_5 : decode cX0_spread 5 = .ok (.iconst 0, 1) := by decide +kernel
theorem dX0_spread_6 : decode cX0_spread 6 = .ok (.istore 5, 2) := by decide +kernel
theorem dX0_spread_8 : decode cX0_spread 8 = .ok (.iload 5, 2) := by decide +kernel
theorem dX0_spread_10 : decode cX0_spread 10 = .ok (.aload_n 0, 1) := by decide +kernel
theorem dX0_spread_11 : decode cX0_spread 11 = .ok (.getfield 9, 3) := by decide +kernel
theorem dX0_spread_14 : decode cX0_spread 14 = .ok (.arraylength, 1) := by decide +kernel
theorem dX0_spread_15 : decode cX0_spread 15 = .ok (.if_icmp .ge 17, 3) := by decide +kernel
theorem dX0_spread_18 : decode cX0_spread 18 = .ok (.aload_n 0, 1) := by decide +kernel
theorem dX0_spread_19 : decode cX0_spread 19 = .ok (.getfield 9, 3) := by decide +kernel
theorem dX0_spread_22 : decode cX0_spread 22 = .ok (.iload 5, 2) := by decide +kernel
theorem dX0_spread_24 : decode cX0_spread 24 = .ok (.iconst (-1), 1) := by decide +kernel
theorem dX0_spread_25 : decode cX0_spread 25 = .ok (.iastore, 1) := by decide +kernel
theorem dX0_spread_26 : decode cX0_spread 26 = .ok (.iinc 5 1, 3) := by decide +kernel
theorem dX0_spread_29 : decode cX0_spread 29 = .ok (.goto (-21), 3) := by decide +kernel
theorem dX0_spread_32 : decode cX0_spread 32 = .ok (.aload_n 0, 1) := by decide +kernel
theorem dX0_spread_33 : decode cX0_spread 33 = .ok (.aload_n 1, 1) := by decide +kernel
theorem dX0_spread_34 : decode cX0_spread 34 = .ok (.iload_n 2, 1) := by decide +kernel
theorem dX0_spread_35 : decode cX0_spread 35 = .ok (.iload_n 3, 1) := by decide +kernel
theorem dX0_spread_36 : decode cX0_spread 36 = .ok (.iload 4, 2) := by decide +kernel
theorem dX0_spread_38 : decode cX0_spread 38 = .ok (.iconst 0, 1) := by decide +kernel
theorem dX0_spread_39 : decode cX0_spread 39 = .ok (.invokevirtual 22, 3) := by decide +kernel
theorem dX0_spread_42 : decode cX0_spread 42 = .ok (.iconst 0, 1) := by decide +kernel
theorem dX0_spread_43 : decode cX0_spread 43 = .ok (.istore 5, 2) := by decide +kernel
theorem dX0_spread_45 : decode cX0_spread 45 = .ok (.iload 5, 2) := by decide +kernel
theorem dX0_spread_47 : decode cX0_spread 47 = .ok (.aload_n 0, 1) := by decide +kernel
theorem dX0_spread_48 : decode cX0_spread 48 = .ok (.getfield 18, 3) := by decide +kernel
theorem dX0_spread_51 : decode cX0_spread 51 = .ok (.if_icmp .ge 32, 3) := by decide +kernel
theorem dX0_spread_54 : decode cX0_spread 54 = .ok (.iload 5, 2) := by decide +kernel
theorem dX0_spread_56 : decode cX0_spread 56 = .ok (.aload_n 0, 1) := by decide +kernel
theorem dX0_spread_57 : decode cX0_spread 57 = .ok (.getfield 15, 3) := by decide +kernel
theorem dX0_spread_60 : decode cX0_spread 60 = .ok (.arraylength, 1) := by decide +kernel
theorem dX0_spread_61 : decode cX0_spread 61 = .ok (.if_icmp .ge 22, 3) := by decide +kernel
theorem dX0_spread_64 : decode cX0_spread 64 = .ok (.aload_n 0, 1) := by decide +kernel
theorem dX0_spread_65 : decode cX0_spread 65 = .ok (.aload_n 1, 1) := by decide +kernel
theorem dX0_spread_66 : decode cX0_spread 66 = .ok (.iload_n 2, 1) := by decide +kernel
theorem dX0_spread_67 : decode cX0_spread 67 = .ok (.aload_n 0, 1) := by decide +kernel
theorem dX0_spread_68 : decode cX0_spread 68 = .ok (.getfield 15, 3) := by decide +kernel
theorem dX0_spread_71 : decode cX0_spread 71 = .ok (.iload 5, 2) := by decide +kernel
theorem dX0_spread_73 : decode cX0_spread 73 = .ok (.iaload, 1) := by decide +kernel
theorem dX0_spread_74 : decode cX0_spread 74 = .ok (.invokevirtual 26, 3) := by decide +kernel
theorem dX0_spread_77 : decode cX0_spread 77 = .ok (.iinc 5 1, 3) := by decide +kernel
theorem dX0_spread_80 : decode cX0_spread 80 = .ok (.goto (-35), 3) := by decide +kernel
theorem dX0_spread_83 : decode cX0_spread 83 = .ok (.aload_n 0, 1) := by decide +kernel
theorem dX0_spread_84 : decode cX0_spread 84 = .ok (.getfield 18, 3) := by decide +kernel
theorem dX0_spread_87 : decode cX0_spread 87 = .ok (.ireturn, 1) := by decide +kernel
set_option maxRecDepth 20000 in
theorem ggX0_movesTo_X0_placeOf : GoodIn wsX0_movesTo wsX0_placeOf := goodIn_r _ [5, 6, 7, 8, 9, 10, 11] (by decide +kernel) (by decide +kernel)
set_option maxRecDepth 20000 in
theorem gX0_movesTo_X0_placeOf : GoodIn wsX0_movesTo (va_wsS RX0 30 yX0_placeOf wsX0_placeOf) := goodIn_app (goodIn_of _ (by decide +kernel)) ggX0_movesTo_X0_placeOf
theorem dX0_movesTo_0 : decode cX0_movesTo 0 = .ok (.iload_n 1, 1) := by decide +kernel
theorem dX0_movesTo_1 : decode cX0_movesTo 1 = .ok (.iload_n 2, 1) := by decide +kernel
theorem dX0_movesTo_2 : decode cX0_movesTo 2 = .ok (.invokestatic 30, 3) := by decide +kernel
theorem dX0_movesTo_5 : decode cX0_movesTo 5 = .ok (.istore_n 3, 1) := by decide +kernel
theorem dX0_movesTo_6 : decode cX0_movesTo 6 = .ok (.iload_n 3, 1) := by decide +kernel
theorem dX0_movesTo_7 : decode cX0_movesTo 7 = .ok (.ifCond .lt 21, 3) := by decide +kernel
theorem dX0_movesTo_10 : decode cX0_movesTo 10 = .ok (.iload_n 3, 1) := by decide +kernel
theorem dX0_movesTo_11 : decode cX0_movesTo 11 = .ok (.aload_n 0, 1) := by decide +kernel
theorem dX0_movesTo_12 : decode cX0_movesTo 12 = .ok (.getfield 9, 3) := by decide +kernel
theorem dX0_movesTo_15 : decode cX0_movesTo 15 = .ok (.arraylength, 1) := by decide +kernel
theorem dX0_movesTo_16 : decode cX0_movesTo 16 = .ok (.if_icmp .ge 12, 3) := by decide +kernel
theorem dX0_movesTo_19 : decode cX0_movesTo 19 = .ok (.aload_n 0, 1) := by decide +kernel
theorem dX0_movesTo_20 : decode cX0_movesTo 20 = .ok (.getfield 9, 3) := by decide +kernel
theorem dX0_movesTo_23 : decode cX0_movesTo 23 = .ok (.iload_n 3, 1) := by decide +kernel
theorem dX0_movesTo_24 : decode cX0_movesTo 24 = .ok (.iaload, 1) := by decide +kernel
theorem dX0_movesTo_25 : decode cX0_movesTo 25 = .ok (.goto 4, 3) := by decide +kernel
theorem dX0_movesTo_28 : decode cX0_movesTo 28 = .ok (.iconst (-1), 1) := by decide +kernel
theorem dX0_movesTo_29 : decode cX0_movesTo 29 = .ok (.ireturn, 1) := by decide +kernel
set_option maxRecDepth 20000 in
theorem ggX0_visitBeside_X2_turned : GoodIn wsX0_visitBeside wsX2_turned := goodIn_r _ [4] (by decide +kernel) (by decide +kernel)
set_option maxRecDepth 20000 in
theorem gX0_visitBeside_X2_turned_n34 : GoodIn wsX0_visitBeside (wsX2_turned) := ggX0_visitBeside_X2_turned
set_option maxRecDepth 20000 in
theorem ggX0_visitBeside_X0_visit : GoodIn wsX0_visitBeside wsX0_visit := goodIn_r _ [9, 1, 10, 11, 12, 13, 8, 14, 15, 3, 16, 17, 18, 19, 20, 21, 22, 23, 24, 25, 26, 27, 28, 29, 30, 31, 32, 33, 34, 35, 36, 37, 38, 39, 40, 41, 42, 43, 44, 45, 46, 47, 48] (by decide +kernel) (by decide +kernel)
set_option maxRecDepth 20000 in
theorem gX0_visitBeside_X0_visit : GoodIn wsX0_visitBeside (wsV RX0 22 RX0 yX0_visit wsX0_visit) := goodIn_app (goodIn_of _ (by decide +kernel)) ggX0_visitBeside_X0_visit
theorem dX0_visitBeside_0 : decode cX0_visitBeside 0 = .ok (.iload_n 3, 1) := by decide +kernel
theorem dX0_visitBeside_1 : decode cX0_visitBeside 1 = .ok (.ifCond .lt 12, 3) := by decide +kernel
theorem dX0_visitBeside_4 : decode cX0_visitBeside 4 = .ok (.iload_n 3, 1) := by decide +kernel
theorem dX0_visitBeside_5 : decode cX0_visitBeside 5 = .ok (.aload_n 0, 1) := by decide +kernel
theorem dX0_visitBeside_6 : decode cX0_visitBeside 6 = .ok (.getfield 9, 3) := by decide +kernel
theorem dX0_visitBeside_9 : decode cX0_visitBeside 9 = .ok (.arraylength, 1) := by decide +kernel
theorem dX0_visitBeside_10 : decode cX0_visitBeside 10 = .ok (.if_icmp .lt 4, 3) := by decide +kernel
theorem dX0_visitBeside_13 : decode cX0_visitBeside 13 = .ok (.return_, 1) := by decide +kernel
theorem dX0_visitBeside_14 : decode cX0_visitBeside 14 = .ok (.iload_n 3, 1) := by decide +kernel
theorem dX0_visitBeside_15 : decode cX0_visitBeside 15 = .ok (.bipush 28, 2) := by decide +kernel
theorem dX0_visitBeside_17 : decode cX0_visitBeside 17 = .ok (.idiv, 1) := by decide +kernel
theorem dX0_visitBeside_18 : decode cX0_visitBeside 18 = .ok (.istore 4, 2) := by decide +kernel
theorem dX0_visitBeside_20 : decode cX0_visitBeside 20 = .ok (.iload_n 3, 1) := by decide +kernel
theorem dX0_visitBeside_21 : decode cX0_visitBeside 21 = .ok (.bipush 28, 2) := by decide +kernel
theorem dX0_visitBeside_23 : decode cX0_visitBeside 23 = .ok (.irem, 1) := by decide +kernel
theorem dX0_visitBeside_24 : decode cX0_visitBeside 24 = .ok (.iconst 3, 1) := by decide +kernel
theorem dX0_visitBeside_25 : decode cX0_visitBeside 25 = .ok (.iadd, 1) := by decide +kernel
theorem dX0_visitBeside_26 : decode cX0_visitBeside 26 = .ok (.istore 5, 2) := by decide +kernel
theorem dX0_visitBeside_28 : decode cX0_visitBeside 28 = .ok (.aload_n 0, 1) := by decide +kernel
theorem dX0_visitBeside_29 : decode cX0_visitBeside 29 = .ok (.getfield 9, 3) := by decide +kernel
theorem dX0_visitBeside_32 : decode cX0_visitBeside 32 = .ok (.iload_n 3, 1) := by decide +kernel
theorem dX0_visitBeside_33 : decode cX0_visitBeside 33 = .ok (.iaload, 1) := by decide +kernel
theorem dX0_visitBeside_34 : decode cX0_visitBeside 34 = .ok (.iconst 1, 1) := by decide +kernel
theorem dX0_visitBeside_35 : decode cX0_visitBeside 35 = .ok (.iadd, 1) := by decide +kernel
theorem dX0_visitBeside_36 : decode cX0_visitBeside 36 = .ok (.istore 6, 2) := by decide +kernel
theorem dX0_visitBeside_38 : decode cX0_visitBeside 38 = .ok (.aload_n 0, 1) := by decide +kernel
theorem dX0_visitBeside_39 : decode cX0_visitBeside 39 = .ok (.aload_n 1, 1) := by decide +kernel
theorem dX0_visitBeside_40 : decode cX0_visitBeside 40 = .ok (.iload_n 2, 1) := by decide +kernel
theorem dX0_visitBeside_41 : decode cX0_visitBeside 41 = .ok (.iload 4, 2) := by decide +kernel
theorem dX0_visitBeside_43 : decode cX0_visitBeside 43 = .ok (.iconst 1, 1) := by decide +kernel
theorem dX0_visitBeside_44 : decode cX0_visitBeside 44 = .ok (.invokestatic 34, 3) := by decide +kernel
theorem dX0_visitBeside_47 : decode cX0_visitBeside 47 = .ok (.iload 5, 2) := by decide +kernel
theorem dX0_visitBeside_49 : decode cX0_visitBeside 49 = .ok (.iload 6, 2) := by decide +kernel
theorem dX0_visitBeside_51 : decode cX0_visitBeside 51 = .ok (.invokevirtual 22, 3) := by decide +kernel
theorem dX0_visitBeside_54 : decode cX0_visitBeside 54 = .ok (.aload_n 0, 1) := by decide +kernel
theorem dX0_visitBeside_55 : decode cX0_visitBeside 55 = .ok (.aload_n 1, 1) := by decide +kernel
theorem dX0_visitBeside_56 : decode cX0_visitBeside 56 = .ok (.iload_n 2, 1) := by decide +kernel
theorem dX0_visitBeside_57 : decode cX0_visitBeside 57 = .ok (.iload 4, 2) := by decide +kernel
theorem dX0_visitBeside_59 : decode cX0_visitBeside 59 = .ok (.iconst (-1), 1) := by decide +kernel
theorem dX0_visitBeside_60 : decode cX0_visitBeside 60 = .ok (.invokestatic 34, 3) := by decide +kernel
theorem dX0_visitBeside_63 : decode cX0_visitBeside 63 = .ok (.iload 5, 2) := by decide +kernel
theorem dX0_visitBeside_65 : decode cX0_visitBeside 65 = .ok (.iload 6, 2) := by decide +kernel
theorem dX0_visitBeside_67 : decode cX0_visitBeside 67 = .ok (.invokevirtual 22, 3) := by decide +kernel
theorem dX0_visitBeside_70 : decode cX0_visitBeside 70 = .ok (.aload_n 0, 1) := by decide +kernel
theorem dX0_visitBeside_71 : decode cX0_visitBeside 71 = .ok (.aload_n 1, 1) := by decide +kernel
theorem dX0_visitBeside_72 : decode cX0_visitBeside 72 = .ok (.iload_n 2, 1) := by decide +kernel
theorem dX0_visitBeside_73 : decode cX0_visitBeside 73 = .ok (.iload 4, 2) := by decide +kernel
theorem dX0_visitBeside_75 : decode cX0_visitBeside 75 = .ok (.iload 5, 2) := by decide +kernel
theorem dX0_visitBeside_77 : decode cX0_visitBeside 77 = .ok (.iconst 1, 1) := by decide +kernel
theorem dX0_visitBeside_78 : decode cX0_visitBeside 78 = .ok (.iadd, 1) := by decide +kernel
theorem dX0_visitBeside_79 : decode cX0_visitBeside 79 = .ok (.iload 6, 2) := by decide +kernel
theorem dX0_visitBeside_81 : decode cX0_visitBeside 81 = .ok (.invokevirtual 22, 3) := by decide +kernel
theorem dX0_visitBeside_84 : decode cX0_visitBeside 84 = .ok (.aload_n 0, 1) := by decide +kernel
theorem dX0_visitBeside_85 : decode cX0_visitBeside 85 = .ok (.aload_n 1, 1) := by decide +kernel
theorem dX0_visitBeside_86 : decode cX0_visitBeside 86 = .ok (.iload_n 2, 1) := by decide +kernel
theorem dX0_visitBeside_87 : decode cX0_visitBeside 87 = .ok (.iload 4, 2) := by decide +kernel
theorem dX0_visitBeside_89 : decode cX0_visitBeside 89 = .ok (.iload 5, 2) := by decide +kernel
theorem dX0_visitBeside_91 : decode cX0_visitBeside 91 = .ok (.iconst 1, 1) := by decide +kernel
theorem dX0_visitBeside_92 : decode cX0_visitBeside 92 = .ok (.isub, 1) := by decide +kernel
theorem dX0_visitBeside_93 : decode cX0_visitBeside 93 = .ok (.iload 6, 2) := by decide +kernel
theorem dX0_visitBeside_95 : decode cX0_visitBeside 95 = .ok (.invokevirtual 22, 3) := by decide +kernel
theorem dX0_visitBeside_98 : decode cX0_visitBeside 98 = .ok (.return_, 1) := by decide +kernel
set_option maxRecDepth 20000 in
theorem ggX0_visit_X0_placeOf : GoodIn wsX0_visit wsX0_placeOf := goodIn_r _ [7, 8, 9, 10, 11, 12, 13] (by decide +kernel) (by decide +kernel)
set_option maxRecDepth 20000 in
theorem gX0_visit_X0_placeOf : GoodIn wsX0_visit (va_wsS RX0 30 yX0_placeOf wsX0_placeOf) := goodIn_app (goodIn_of _ (by decide +kernel)) ggX0_visit_X0_placeOf
set_option maxRecDepth 20000 in
theorem ggX0_visit_X1_isSafe : GoodIn wsX0_visit wsX1_isSafe := goodIn_r _ [18, 19, 20, 21, 17, 22, 23, 24, 25, 26, 27, 28, 29, 30, 31, 32, 33, 34, 35, 36, 40, 41, 42] (by decide +kernel) (by decide +kernel)
set_option maxRecDepth 20000 in
theorem gX0_visit_X1_isSafe : GoodIn wsX0_visit (wsV RX0 37 RX1 yX1_isSafe wsX1_isSafe) := goodIn_app (goodIn_of _ (by decide +kernel)) ggX0_visit_X1_isSafe
theorem dX0_visit_0 : decode cX0_visit 0 = .ok (.iload_n 3, 1) := by decide +kernel
theorem dX0_visit_1 : decode cX0_visit 1 = .ok (.iload 4, 2) := by decide +kernel
theorem dX0_visit_3 : decode cX0_visit 3 = .ok (.invokestatic 30, 3) := by decide +kernel
theorem dX0_visit_6 : decode cX0_visit 6 = .ok (.istore 6, 2) := by decide +kernel
theorem dX0_visit_8 : decode cX0_visit 8 = .ok (.iload 6, 2) := by decide +kernel
theorem dX0_visit_10 : decode cX0_visit 10 = .ok (.ifCond .lt 24, 3) := by decide +kernel
theorem dX0_visit_13 : decode cX0_visit 13 = .ok (.iload 6, 2) := by decide +kernel
theorem dX0_visit_15 : decode cX0_visit 15 = .ok (.aload_n 0, 1) := by decide +kernel
theorem dX0_visit_16 : decode cX0_visit 16 = .ok (.getfield 9, 3) := by decide +kernel
theorem dX0_visit_19 : decode cX0_visit 19 = .ok (.arraylength, 1) := by decide +kernel
theorem dX0_visit_20 : decode cX0_visit 20 = .ok (.if_icmp .ge 14, 3) := by decide +kernel
theorem dX0_visit_23 : decode cX0_visit 23 = .ok (.aload_n 0, 1) := by decide +kernel
theorem dX0_visit_24 : decode cX0_visit 24 = .ok (.getfield 9, 3) := by decide +kernel
theorem dX0_visit_27 : decode cX0_visit 27 = .ok (.iload 6, 2) := by decide +kernel
theorem dX0_visit_29 : decode cX0_visit 29 = .ok (.iaload, 1) := by decide +kernel
theorem dX0_visit_30 : decode cX0_visit 30 = .ok (.iconst (-1), 1) := by decide +kernel
theorem dX0_visit_31 : decode cX0_visit 31 = .ok (.if_icmp .eq 4, 3) := by decide +kernel
theorem dX0_visit_34 : decode cX0_visit 34 = .ok (.return_, 1) := by decide +kernel
theorem dX0_visit_35 : decode cX0_visit 35 = .ok (.aload_n 0, 1) := by decide +kernel
theorem dX0_visit_36 : decode cX0_visit 36 = .ok (.getfield 18, 3) := by decide +kernel
theorem dX0_visit_39 : decode cX0_visit 39 = .ok (.ifCond .lt 56, 3) := by decide +kernel
theorem dX0_visit_42 : decode cX0_visit 42 = .ok (.aload_n 0, 1) := by decide +kernel
theorem dX0_visit_43 : decode cX0_visit 43 = .ok (.getfield 18, 3) := by decide +kernel
theorem dX0_visit_46 : decode cX0_visit 46 = .ok (.aload_n 0, 1) := by decide +kernel
theorem dX0_visit_47 : decode cX0_visit 47 = .ok (.getfield 15, 3) := by decide +kernel
theorem dX0_visit_50 : decode cX0_visit 50 = .ok (.arraylength, 1) := by decide +kernel
theorem dX0_visit_51 : decode cX0_visit 51 = .ok (.if_icmp .ge 44, 3) := by decide +kernel
theorem dX0_visit_54 : decode cX0_visit 54 = .ok (.aload_n 1, 1) := by decide +kernel
theorem dX0_visit_55 : decode cX0_visit 55 = .ok (.iload_n 2, 1) := by decide +kernel
theorem dX0_visit_56 : decode cX0_visit 56 = .ok (.iload_n 3, 1) := by decide +kernel
theorem dX0_visit_57 : decode cX0_visit 57 = .ok (.iload 4, 2) := by decide +kernel
theorem dX0_visit_59 : decode cX0_visit 59 = .ok (.invokevirtual 37, 3) := by decide +kernel
theorem dX0_visit_62 : decode cX0_visit 62 = .ok (.ifCond .eq 33, 3) := by decide +kernel
theorem dX0_visit_65 : decode cX0_visit 65 = .ok (.aload_n 0, 1) := by decide +kernel
theorem dX0_visit_66 : decode cX0_visit 66 = .ok (.getfield 9, 3) := by decide +kernel
theorem dX0_visit_69 : decode cX0_visit 69 = .ok (.iload 6, 2) := by decide +kernel
theorem dX0_visit_71 : decode cX0_visit 71 = .ok (.iload 5, 2) := by decide +kernel
theorem dX0_visit_73 : decode cX0_visit 73 = .ok (.iastore, 1) := by decide +kernel
theorem dX0_visit_74 : decode cX0_visit 74 = .ok (.aload_n 0, 1) := by decide +kernel
theorem dX0_visit_75 : decode cX0_visit 75 = .ok (.getfield 15, 3) := by decide +kernel
theorem dX0_visit_78 : decode cX0_visit 78 = .ok (.aload_n 0, 1) := by decide +kernel
theorem dX0_visit_79 : decode cX0_visit 79 = .ok (.getfield 18, 3) := by decide +kernel
theorem dX0_visit_82 : decode cX0_visit 82 = .ok (.iload 6, 2) := by decide +kernel
theorem dX0_visit_84 : decode cX0_visit 84 = .ok (.iastore, 1) := by decide +kernel
theorem dX0_visit_85 : decode cX0_visit 85 = .ok (.aload_n 0, 1) := by decide +kernel
theorem dX0_visit_86 : decode cX0_visit 86 = .ok (.dup, 1) := by decide +kernel
theorem dX0_visit_87 : decode cX0_visit 87 = .ok (.getfield 18, 3) := by decide +kernel
theorem dX0_visit_90 : decode cX0_visit 90 = .ok (.iconst 1, 1) := by decide +kernel
theorem dX0_visit_91 : decode cX0_visit 91 = .ok (.iadd, 1) := by decide +kernel
theorem dX0_visit_92 : decode cX0_visit 92 = .ok (.putfield 18, 3) := by decide +kernel
theorem dX0_visit_95 : decode cX0_visit 95 = .ok (.return_, 1) := by decide +kernel
set_option maxRecDepth 20000 in
theorem ggX0_placeOf_X2_isReach : GoodIn wsX0_placeOf wsX2_isReach := goodIn_r _ [3, 4, 5, 2, 6] (by decide +kernel) (by decide +kernel)
set_option maxRecDepth 20000 in
theorem gX0_placeOf_X2_isReach_n43 : GoodIn wsX0_placeOf (wsX2_isReach) := ggX0_placeOf_X2_isReach
theorem dX0_placeOf_0 : decode cX0_placeOf 0 = .ok (.iload_n 1, 1) := by decide +kernel
theorem dX0_placeOf_1 : decode cX0_placeOf 1 = .ok (.invokestatic 43, 3) := by decide +kernel
theorem dX0_placeOf_4 : decode cX0_placeOf 4 = .ok (.ifCond .eq 14, 3) := by decide +kernel
theorem dX0_placeOf_7 : decode cX0_placeOf 7 = .ok (.iload_n 0, 1) := by decide +kernel
theorem dX0_placeOf_8 : decode cX0_placeOf 8 = .ok (.bipush 28, 2) := by decide +kernel
theorem dX0_placeOf_10 : decode cX0_placeOf 10 = .ok (.imul, 1) := by decide +kernel
theorem dX0_placeOf_11 : decode cX0_placeOf 11 = .ok (.iload_n 1, 1) := by decide +kernel
theorem dX0_placeOf_12 : decode cX0_placeOf 12 = .ok (.iadd, 1) := by decide +kernel
theorem dX0_placeOf_13 : decode cX0_placeOf 13 = .ok (.iconst 3, 1) := by decide +kernel
theorem dX0_placeOf_14 : decode cX0_placeOf 14 = .ok (.isub, 1) := by decide +kernel
theorem dX0_placeOf_15 : decode cX0_placeOf 15 = .ok (.goto 4, 3) := by decide +kernel
theorem dX0_placeOf_18 : decode cX0_placeOf 18 = .ok (.iconst (-1), 1) := by decide +kernel
theorem dX0_placeOf_19 : decode cX0_placeOf 19 = .ok (.ireturn, 1) := by decide +kernel
theorem dX1_init_0 : decode cX1_init 0 = .ok (.aload_n 0, 1) := by decide +kernel
theorem dX1_init_1 : decode cX1_init 1 = .ok (.invokespecial 3, 3) := by decide +kernel
theorem dX1_init_4 : decode cX1_init 4 = .ok (.aload_n 0, 1) := by decide +kernel
theorem dX1_init_5 : decode cX1_init 5 = .ok (.iconst 4, 1) := by decide +kernel
theorem dX1_init_6 : decode cX1_init 6 = .ok (.newarray .int, 2) := by decide +kernel
theorem dX1_init_8 : decode cX1_init 8 = .ok (.putfield 9, 3) := by decide +kernel
theorem dX1_init_11 : decode cX1_init 11 = .ok (.aload_n 0, 1) := by decide +kernel
theorem dX1_init_12 : decode cX1_init 12 = .ok (.bipush 28, 2) := by decide +kernel
theorem dX1_init_14 : decode cX1_init 14 = .ok (.newarray .int, 2) := by decide +kernel
theorem dX1_init_16 : decode cX1_init 16 = .ok (.putfield 15, 3) := by decide +kernel
theorem dX1_init_19 : decode cX1_init 19 = .ok (.iconst 0, 1) := by decide +kernel
theorem dX1_init_20 : decode cX1_init 20 = .ok (.istore_n 1, 1) := by decide +kernel
theorem dX1_init_21 : decode cX1_init 21 = .ok (.iload_n 1, 1) := by decide +kernel
theorem dX1_init_22 : decode cX1_init 22 = .ok (.aload_n 0, 1) := by decide +kernel
theorem dX1_init_23 : decode cX1_init 23 = .ok (.getfield 15, 3) := by decide +kernel
theorem dX1_init_26 : decode cX1_init 26 = .ok (.arraylength, 1) := by decide +kernel
theorem dX1_init_27 : decode cX1_init 27 = .ok (.if_icmp .ge 21, 3) := by decide +kernel
theorem dX1_init_30 : decode cX1_init 30 = .ok (.aload_n 0, 1) := by decide +kernel
theorem dX1_init_31 : decode cX1_init 31 = .ok (.getfield 15, 3) := by decide +kernel
theorem dX1_init_34 : decode cX1_init 34 = .ok (.iload_n 1, 1) := by decide +kernel
theorem dX1_init_35 : decode cX1_init 35 = .ok (.bipush 90, 2) := by decide +kernel
theorem dX1_init_37 : decode cX1_init 37 = .ok (.iload_n 1, 1) := by decide +kernel
theorem dX1_init_38 : decode cX1_init 38 = .ok (.iconst 3, 1) := by decide +kernel
theorem dX1_init_39 : decode cX1_init 39 = .ok (.iadd, 1) := by decide +kernel
theorem dX1_init_40 : decode cX1_init 40 = .ok (.idiv, 1) := by decide +kernel
theorem dX1_init_41 : decode cX1_init 41 = .ok (.iastore, 1) := by decide +kernel
theorem dX1_init_42 : decode cX1_init 42 = .ok (.iinc 1 1, 3) := by decide +kernel
theorem dX1_init_45 : decode cX1_init 45 = .ok (.goto (-24), 3) := by decide +kernel
theorem dX1_init_48 : decode cX1_init 48 = .ok (.return_, 1) := by decide +kernel
set_option maxRecDepth 20000 in
theorem ggX1_becomeLike_X1_drawn : GoodIn wsX1_becomeLike wsX1_drawn := goodIn_r _ [6, 7, 21, 22, 23] (by decide +kernel) (by decide +kernel)
set_option maxRecDepth 20000 in
theorem gX1_becomeLike_X1_drawn : GoodIn wsX1_becomeLike (wsV RX1 22 RX1 yX1_drawn wsX1_drawn) := goodIn_app (goodIn_of _ (by decide +kernel)) ggX1_becomeLike_X1_drawn
set_option maxRecDepth 20000 in
theorem ggX1_becomeLike_X1_draw : GoodIn wsX1_becomeLike wsX1_draw := goodIn_r _ [11, 7, 21, 22, 23] (by decide +kernel) (by decide +kernel)
set_option maxRecDepth 20000 in
theorem gX1_becomeLike_X1_draw : GoodIn wsX1_becomeLike (wsV RX1 26 RX1 yX1_draw wsX1_draw) := goodIn_app (goodIn_of _ (by decide +kernel)) ggX1_becomeLike_X1_draw
set_option maxRecDepth 20000 in
theorem ggX1_becomeLike_X1_allowed : GoodIn wsX1_becomeLike wsX1_allowed := goodIn_r _ [15, 16, 21, 22, 23] (by decide +kernel) (by decide +kernel)
set_option maxRecDepth 20000 in
theorem gX1_becomeLike_X1_allowed : GoodIn wsX1_becomeLike (wsV RX1 30 RX1 yX1_allowed wsX1_allowed) := goodIn_app (goodIn_of _ (by decide +kernel)) ggX1_becomeLike_X1_allowed
set_option maxRecDepth 20000 in
theorem ggX1_becomeLike_X1_allow : GoodIn wsX1_becomeLike wsX1_allow := goodIn_r _ [20, 16, 21, 22, 23] (by decide +kernel) (by decide +kernel)
set_option maxRecDepth 20000 in
theorem gX1_becomeLike_X1_allow : GoodIn wsX1_becomeLike (wsV RX1 33 RX1 yX1_allow wsX1_allow) := goodIn_app (goodIn_of _ (by decide +kernel)) ggX1_becomeLike_X1_allow
theorem dX1_becomeLike_0 : decode cX1_becomeLike 0 = .ok (.aload_n 0, 1) := by decide +kernel
theorem dX1_becomeLike_1 : decode cX1_becomeLike 1 = .ok (.aload_n 1, 1) := by decide +kernel
theorem dX1_becomeLike_2 : decode cX1_becomeLike 2 = .ok (.getfield 18, 3) := by decide +kernel
theorem dX1_becomeLike_5 : decode cX1_becomeLike 5 = .ok (.putfield 18, 3) := by decide +kernel
theorem dX1_becomeLike_8 : decode cX1_becomeLike 8 = .ok (.iconst 0, 1) := by decide +kernel
theorem dX1_becomeLike_9 : decode cX1_becomeLike 9 = .ok (.istore_n 2, 1) := by decide +kernel
theorem dX1_becomeLike_10 : decode cX1_becomeLike 10 = .ok (.iload_n 2, 1) := by decide +kernel
theorem dX1_becomeLike_11 : decode cX1_becomeLike 11 = .ok (.iconst 4, 1) := by decide +kernel
theorem dX1_becomeLike_12 : decode cX1_becomeLike 12 = .ok (.if_icmp .ge 19, 3) := by decide +kernel
theorem dX1_becomeLike_15 : decode cX1_becomeLike 15 = .ok (.aload_n 0, 1) := by decide +kernel
theorem dX1_becomeLike_16 : decode cX1_becomeLike 16 = .ok (.iload_n 2, 1) := by decide +kernel
theorem dX1_becomeLike_17 : decode cX1_becomeLike 17 = .ok (.aload_n 1, 1) := by decide +kernel
theorem dX1_becomeLike_18 : decode cX1_becomeLike 18 = .ok (.iload_n 2, 1) := by decide +kernel
theorem dX1_becomeLike_19 : decode cX1_becomeLike 19 = .ok (.invokevirtual 22, 3) := by decide +kernel
theorem dX1_becomeLike_22 : decode cX1_becomeLike 22 = .ok (.invokevirtual 26, 3) := by decide +kernel
theorem dX1_becomeLike_25 : decode cX1_becomeLike 25 = .ok (.iinc 2 1, 3) := by decide +kernel
theorem dX1_becomeLike_28 : decode cX1_becomeLike 28 = .ok (.goto (-18), 3) := by decide +kernel
theorem dX1_becomeLike_31 : decode cX1_becomeLike 31 = .ok (.iconst 3, 1) := by decide +kernel
theorem dX1_becomeLike_32 : decode cX1_becomeLike 32 = .ok (.istore_n 2, 1) := by decide +kernel
theorem dX1_becomeLike_33 : decode cX1_becomeLike 33 = .ok (.iload_n 2, 1) := by decide +kernel
theorem dX1_becomeLike_34 : decode cX1_becomeLike 34 = .ok (.bipush 30, 2) := by decide +kernel
theorem dX1_becomeLike_36 : decode cX1_becomeLike 36 = .ok (.if_icmp .gt 19, 3) := by decide +kernel
theorem dX1_becomeLike_39 : decode cX1_becomeLike 39 = .ok (.aload_n 0, 1) := by decide +kernel
theorem dX1_becomeLike_40 : decode cX1_becomeLike 40 = .ok (.iload_n 2, 1) := by decide +kernel
theorem dX1_becomeLike_41 : decode cX1_becomeLike 41 = .ok (.aload_n 1, 1) := by decide +kernel
theorem dX1_becomeLike_42 : decode cX1_becomeLike 42 = .ok (.iload_n 2, 1) := by decide +kernel
theorem dX1_becomeLike_43 : decode cX1_becomeLike 43 = .ok (.invokevirtual 30, 3) := by decide +kernel
theorem dX1_becomeLike_46 : decode cX1_becomeLike 46 = .ok (.invokevirtual 33, 3) := by decide +kernel
theorem dX1_becomeLike_49 : decode cX1_becomeLike 49 = .ok (.iinc 2 1, 3) := by decide +kernel
theorem dX1_becomeLike_52 : decode cX1_becomeLike 52 = .ok (.goto (-19), 3) := by decide +kernel
theorem dX1_becomeLike_55 : decode cX1_becomeLike 55 = .ok (.return_, 1) := by decide +kernel
theorem dX1_drawn_0 : decode cX1_drawn 0 = .ok (.iload_n 1, 1) := by decide +kernel
theorem dX1_drawn_1 : decode cX1_drawn 1 = .ok (.ifCond .lt 21, 3) := by decide +kernel
theorem dX1_drawn_4 : decode cX1_drawn 4 = .ok (.iload_n 1, 1) := by decide +kernel
theorem dX1_drawn_5 : decode cX1_drawn 5 = .ok (.aload_n 0, 1) := by decide +kernel
theorem dX1_drawn_6 : decode cX1_drawn 6 = .ok (.getfield 9, 3) := by decide +kernel
theorem dX1_drawn_9 : decode cX1_drawn 9 = .ok (.arraylength, 1) := by decide +kernel
theorem dX1_drawn_10 : decode cX1_drawn 10 = .ok (.if_icmp .ge 12, 3) := by decide +kernel
theorem dX1_drawn_13 : decode cX1_drawn 13 = .ok (.aload_n 0, 1) := by decide +kernel
theorem dX1_drawn_14 : decode cX1_drawn 14 = .ok (.getfield 9, 3) := by decide +kernel
theorem dX1_drawn_17 : decode cX1_drawn 17 = .ok (.iload_n 1, 1) := by decide +kernel
theorem dX1_drawn_18 : decode cX1_drawn 18 = .ok (.iaload, 1) := by decide +kernel
theorem dX1_drawn_19 : decode cX1_drawn 19 = .ok (.goto 4, 3) := by decide +kernel
theorem dX1_drawn_22 : decode cX1_drawn 22 = .ok (.iconst 0, 1) := by decide +kernel
theorem dX1_drawn_23 : decode cX1_drawn 23 = .ok (.ireturn, 1) := by decide +kernel
theorem dX1_draw_0 : decode cX1_draw 0 = .ok (.iload_n 1, 1) := by decide +kernel
theorem dX1_draw_1 : decode cX1_draw 1 = .ok (.ifCond .lt 19, 3) := by decide +kernel
theorem dX1_draw_4 : decode cX1_draw 4 = .ok (.iload_n 1, 1) := by decide +kernel
theorem dX1_draw_5 : decode cX1_draw 5 = .ok (.aload_n 0, 1) := by decide +kernel
theorem dX1_draw_6 : decode cX1_draw 6 = .ok (.getfield 9, 3) := by decide +kernel
theorem dX1_draw_9 : decode cX1_draw 9 = .ok (.arraylength, 1) := by decide +kernel
theorem dX1_draw_10 : decode cX1_draw 10 = .ok (.if_icmp .ge 10, 3) := by decide +kernel
theorem dX1_draw_13 : decode cX1_draw 13 = .ok (.aload_n 0, 1) := by decide +kernel
theorem dX1_draw_14 : decode cX1_draw 14 = .ok (.getfield 9, 3) := by decide +kernel
theorem dX1_draw_17 : decode cX1_draw 17 = .ok (.iload_n 1, 1) := by decide +kernel
theorem dX1_draw_18 : decode cX1_draw 18 = .ok (.iload_n 2, 1) := by decide +kernel
theorem dX1_draw_19 : decode cX1_draw 19 = .ok (.iastore, 1) := by decide +kernel
theorem dX1_draw_20 : decode cX1_draw 20 = .ok (.return_, 1) := by decide +kernel
theorem dX1_allowed_0 : decode cX1_allowed 0 = .ok (.iload_n 1, 1) := by decide +kernel
theorem dX1_allowed_1 : decode cX1_allowed 1 = .ok (.iconst 3, 1) := by decide +kernel
theorem dX1_allowed_2 : decode cX1_allowed 2 = .ok (.isub, 1) := by decide +kernel
theorem dX1_allowed_3 : decode cX1_allowed 3 = .ok (.istore_n 2, 1) := by decide +kernel
theorem dX1_allowed_4 : decode cX1_allowed 4 = .ok (.iload_n 2, 1) := by decide +kernel
theorem dX1_allowed_5 : decode cX1_allowed 5 = .ok (.ifCond .lt 21, 3) := by decide +kernel
theorem dX1_allowed_8 : decode cX1_allowed 8 = .ok (.iload_n 2, 1) := by decide +kernel
theorem dX1_allowed_9 : decode cX1_allowed 9 = .ok (.aload_n 0, 1) := by decide +kernel
theorem dX1_allowed_10 : decode cX1_allowed 10 = .ok (.getfield 15, 3) := by decide +kernel
theorem dX1_allowed_13 : decode cX1_allowed 13 = .ok (.arraylength, 1) := by decide +kernel
theorem dX1_allowed_14 : decode cX1_allowed 14 = .ok (.if_icmp .ge 12, 3) := by decide +kernel
theorem dX1_allowed_17 : decode cX1_allowed 17 = .ok (.aload_n 0, 1) := by decide +kernel
theorem dX1_allowed_18 : decode cX1_allowed 18 = .ok (.getfield 15, 3) := by decide +kernel
theorem dX1_allowed_21 : decode cX1_allowed 21 = .ok (.iload_n 2, 1) := by decide +kernel
theorem dX1_allowed_22 : decode cX1_allowed 22 = .ok (.iaload, 1) := by decide +kernel
theorem dX1_allowed_23 : decode cX1_allowed 23 = .ok (.goto 4, 3) := by decide +kernel
theorem dX1_allowed_26 : decode cX1_allowed 26 = .ok (.iconst 0, 1) := by decide +kernel
theorem dX1_allowed_27 : decode cX1_allowed 27 = .ok (.ireturn, 1) := by decide +kernel
theorem dX1_allow_0 : decode cX1_allow 0 = .ok (.iload_n 1, 1) := by decide +kernel
theorem dX1_allow_1 : decode cX1_allow 1 = .ok (.iconst 3, 1) := by decide +kernel
theorem dX1_allow_2 : decode cX1_allow 2 = .ok (.isub, 1) := by decide +kernel
theorem dX1_allow_3 : decode cX1_allow 3 = .ok (.istore_n 3, 1) := by decide +kernel
theorem dX1_allow_4 : decode cX1_allow 4 = .ok (.iload_n 3, 1) := by decide +kernel
theorem dX1_allow_5 : decode cX1_allow 5 = .ok (.ifCond .lt 19, 3) := by decide +kernel
theorem dX1_allow_8 : decode cX1_allow 8 = .ok (.iload_n 3, 1) := by decide +kernel
theorem dX1_allow_9 : decode cX1_allow 9 = .ok (.aload_n 0, 1) := by decide +kernel
theorem dX1_allow_10 : decode cX1_allow 10 = .ok (.getfield 15, 3) := by decide +kernel
theorem dX1_allow_13 : decode cX1_allow 13 = .ok (.arraylength, 1) := by decide +kernel
theorem dX1_allow_14 : decode cX1_allow 14 = .ok (.if_icmp .ge 10, 3) := by decide +kernel
theorem dX1_allow_17 : decode cX1_allow 17 = .ok (.aload_n 0, 1) := by decide +kernel
theorem dX1_allow_18 : decode cX1_allow 18 = .ok (.getfield 15, 3) := by decide +kernel
theorem dX1_allow_21 : decode cX1_allow 21 = .ok (.iload_n 3, 1) := by decide +kernel
theorem dX1_allow_22 : decode cX1_allow 22 = .ok (.iload_n 2, 1) := by decide +kernel
theorem dX1_allow_23 : decode cX1_allow 23 = .ok (.iastore, 1) := by decide +kernel
theorem dX1_allow_24 : decode cX1_allow 24 = .ok (.return_, 1) := by decide +kernel
set_option maxRecDepth 20000 in
theorem ggX1_isSafe_X1_allowed : GoodIn wsX1_isSafe wsX1_allowed := goodIn_r _ [5, 6, 20, 21, 22] (by decide +kernel) (by decide +kernel)
set_option maxRecDepth 20000 in
theorem gX1_isSafe_X1_allowed : GoodIn wsX1_isSafe (wsV RX1 30 RX1 yX1_allowed wsX1_allowed) := goodIn_app (goodIn_of _ (by decide +kernel)) ggX1_isSafe_X1_allowed
set_option maxRecDepth 20000 in
theorem ggX1_isSafe_X1_strain : GoodIn wsX1_isSafe wsX1_strain := goodIn_r _ [10, 11, 12, 13, 14, 4, 15, 16, 17, 18, 19, 20, 21, 22] (by decide +kernel) (by decide +kernel)
set_option maxRecDepth 20000 in
theorem gX1_isSafe_X1_strain : GoodIn wsX1_isSafe (wsV RX1 36 RX1 yX1_strain wsX1_strain) := goodIn_app (goodIn_of _ (by decide +kernel)) ggX1_isSafe_X1_strain
theorem dX1_isSafe_0 : decode cX1_isSafe 0 = .ok (.iload_n 1, 1) := by decide +kernel
theorem dX1_isSafe_1 : decode cX1_isSafe 1 = .ok (.aload_n 0, 1) := by decide +kernel
theorem dX1_isSafe_2 : decode cX1_isSafe 2 = .ok (.iload_n 3, 1) := by decide +kernel
theorem dX1_isSafe_3 : decode cX1_isSafe 3 = .ok (.invokevirtual 30, 3) := by decide +kernel
theorem dX1_isSafe_6 : decode cX1_isSafe 6 = .ok (.if_icmp .le 5, 3) := by decide +kernel
theorem dX1_isSafe_9 : decode cX1_isSafe 9 = .ok (.iconst 0, 1) := by decide +kernel
theorem dX1_isSafe_10 : decode cX1_isSafe 10 = .ok (.ireturn, 1) := by decide +kernel
theorem dX1_isSafe_11 : decode cX1_isSafe 11 = .ok (.iconst 0, 1) := by decide +kernel
theorem dX1_isSafe_12 : decode cX1_isSafe 12 = .ok (.istore 4, 2) := by decide +kernel
theorem dX1_isSafe_14 : decode cX1_isSafe 14 = .ok (.iload 4, 2) := by decide +kernel
theorem dX1_isSafe_16 : decode cX1_isSafe 16 = .ok (.iconst 4, 1) := by decide +kernel
theorem dX1_isSafe_17 : decode cX1_isSafe 17 = .ok (.if_icmp .ge 23, 3) := by decide +kernel
theorem dX1_isSafe_20 : decode cX1_isSafe 20 = .ok (.aload_n 0, 1) := by decide +kernel
theorem dX1_isSafe_21 : decode cX1_isSafe 21 = .ok (.iload 4, 2) := by decide +kernel
theorem dX1_isSafe_23 : decode cX1_isSafe 23 = .ok (.iload_n 1, 1) := by decide +kernel
theorem dX1_isSafe_24 : decode cX1_isSafe 24 = .ok (.iload_n 2, 1) := by decide +kernel
theorem dX1_isSafe_25 : decode cX1_isSafe 25 = .ok (.iload_n 3, 1) := by decide +kernel
theorem dX1_isSafe_26 : decode cX1_isSafe 26 = .ok (.invokevirtual 36, 3) := by decide +kernel
theorem dX1_isSafe_29 : decode cX1_isSafe 29 = .ok (.ifCond .le 5, 3) := by decide +kernel
theorem dX1_isSafe_32 : decode cX1_isSafe 32 = .ok (.iconst 0, 1) := by decide +kernel
theorem dX1_isSafe_33 : decode cX1_isSafe 33 = .ok (.ireturn, 1) := by decide +kernel
theorem dX1_isSafe_34 : decode cX1_isSafe 34 = .ok (.iinc 4 1, 3) := by decide +kernel
theorem dX1_isSafe_37 : decode cX1_isSafe 37 = .ok (.goto (-23), 3) := by decide +kernel
theorem dX1_isSafe_40 : decode cX1_isSafe 40 = .ok (.iconst 1, 1) := by decide +kernel
theorem dX1_isSafe_41 : decode cX1_isSafe 41 = .ok (.ireturn, 1) := by decide +kernel
set_option maxRecDepth 20000 in
theorem ggX1_strain_X1_drawn : GoodIn wsX1_strain wsX1_drawn := goodIn_r _ [6, 7, 11, 12, 13] (by decide +kernel) (by decide +kernel)
set_option maxRecDepth 20000 in
theorem gX1_strain_X1_drawn : GoodIn wsX1_strain (wsV RX1 22 RX1 yX1_drawn wsX1_drawn) := goodIn_app (goodIn_of _ (by decide +kernel)) ggX1_strain_X1_drawn
set_option maxRecDepth 20000 in
theorem ggX1_strain_X1_slant : GoodIn wsX1_strain wsX1_slant := goodIn_r _ [10] (by decide +kernel) (by decide +kernel)
set_option maxRecDepth 20000 in
theorem gX1_strain_X1_slant : GoodIn wsX1_strain (va_wsS RX1 40 yX1_slant wsX1_slant) := goodIn_app (goodIn_of _ (by decide +kernel)) ggX1_strain_X1_slant
theorem dX1_strain_0 : decode cX1_strain 0 = .ok (.bipush 10, 2) := by decide +kernel
theorem dX1_strain_2 : decode cX1_strain 2 = .ok (.iconst 2, 1) := by decide +kernel
theorem dX1_strain_3 : decode cX1_strain 3 = .ok (.aload_n 0, 1) := by decide +kernel
theorem dX1_strain_4 : decode cX1_strain 4 = .ok (.iload_n 1, 1) := by decide +kernel
theorem dX1_strain_5 : decode cX1_strain 5 = .ok (.invokevirtual 22, 3) := by decide +kernel
theorem dX1_strain_8 : decode cX1_strain 8 = .ok (.iadd, 1) := by decide +kernel
theorem dX1_strain_9 : decode cX1_strain 9 = .ok (.imul, 1) := by decide +kernel
theorem dX1_strain_10 : decode cX1_strain 10 = .ok (.istore 5, 2) := by decide +kernel
theorem dX1_strain_12 : decode cX1_strain 12 = .ok (.iload_n 3, 1) := by decide +kernel
theorem dX1_strain_13 : decode cX1_strain 13 = .ok (.iload_n 1, 1) := by decide +kernel
theorem dX1_strain_14 : decode cX1_strain 14 = .ok (.invokestatic 40, 3) := by decide +kernel
theorem dX1_strain_17 : decode cX1_strain 17 = .ok (.istore 6, 2) := by decide +kernel
theorem dX1_strain_19 : decode cX1_strain 19 = .ok (.iload_n 2, 1) := by decide +kernel
theorem dX1_strain_20 : decode cX1_strain 20 = .ok (.iload 4, 2) := by decide +kernel
theorem dX1_strain_22 : decode cX1_strain 22 = .ok (.iload 6, 2) := by decide +kernel
theorem dX1_strain_24 : decode cX1_strain 24 = .ok (.imul, 1) := by decide +kernel
theorem dX1_strain_25 : decode cX1_strain 25 = .ok (.iload 5, 2) := by decide +kernel
theorem dX1_strain_27 : decode cX1_strain 27 = .ok (.isub, 1) := by decide +kernel
theorem dX1_strain_28 : decode cX1_strain 28 = .ok (.imul, 1) := by decide +kernel
theorem dX1_strain_29 : decode cX1_strain 29 = .ok (.aload_n 0, 1) := by decide +kernel
theorem dX1_strain_30 : decode cX1_strain 30 = .ok (.getfield 18, 3) := by decide +kernel
theorem dX1_strain_33 : decode cX1_strain 33 = .ok (.iconst 2, 1) := by decide +kernel
theorem dX1_strain_34 : decode cX1_strain 34 = .ok (.imul, 1) := by decide +kernel
theorem dX1_strain_35 : decode cX1_strain 35 = .ok (.iconst 4, 1) := by decide +kernel
theorem dX1_strain_36 : decode cX1_strain 36 = .ok (.iload 6, 2) := by decide +kernel
theorem dX1_strain_38 : decode cX1_strain 38 = .ok (.imul, 1) := by decide +kernel
theorem dX1_strain_39 : decode cX1_strain 39 = .ok (.iload 5, 2) := by decide +kernel
theorem dX1_strain_41 : decode cX1_strain 41 = .ok (.iadd, 1) := by decide +kernel
theorem dX1_strain_42 : decode cX1_strain 42 = .ok (.imul, 1) := by decide +kernel
theorem dX1_strain_43 : decode cX1_strain 43 = .ok (.isub, 1) := by decide +kernel
theorem dX1_strain_44 : decode cX1_strain 44 = .ok (.bipush 20, 2) := by decide +kernel
theorem dX1_strain_46 : decode cX1_strain 46 = .ok (.iload 5, 2) := by decide +kernel
theorem dX1_strain_48 : decode cX1_strain 48 = .ok (.imul, 1) := by decide +kernel
theorem dX1_strain_49 : decode cX1_strain 49 = .ok (.isub, 1) := by decide +kernel
theorem dX1_strain_50 : decode cX1_strain 50 = .ok (.ireturn, 1) := by decide +kernel
theorem dX1_slant_0 : decode cX1_slant 0 = .ok (.iload_n 0, 1) := by decide +kernel
theorem dX1_slant_1 : decode cX1_slant 1 = .ok (.iconst 2, 1) := by decide +kernel
theorem dX1_slant_2 : decode cX1_slant 2 = .ok (.iload_n 1, 1) := by decide +kernel
theorem dX1_slant_3 : decode cX1_slant 3 = .ok (.imul, 1) := by decide +kernel
theorem dX1_slant_4 : decode cX1_slant 4 = .ok (.isub, 1) := by decide +kernel
theorem dX1_slant_5 : decode cX1_slant 5 = .ok (.bipush 8, 2) := by decide +kernel
theorem dX1_slant_7 : decode cX1_slant 7 = .ok (.iadd, 1) := by decide +kernel
theorem dX1_slant_8 : decode cX1_slant 8 = .ok (.bipush 8, 2) := by decide +kernel
theorem dX1_slant_10 : decode cX1_slant 10 = .ok (.irem, 1) := by decide +kernel
theorem dX1_slant_11 : decode cX1_slant 11 = .ok (.tableswitch 56 0 7 #[45, 48, 51, 53, 56, 53, 51, 48], 45) := by decide +kernel
theorem dX1_slant_56 : decode cX1_slant 56 = .ok (.bipush 10, 2) := by decide +kernel
theorem dX1_slant_58 : decode cX1_slant 58 = .ok (.ireturn, 1) := by decide +kernel
theorem dX1_slant_59 : decode cX1_slant 59 = .ok (.bipush 7, 2) := by decide +kernel
theorem dX1_slant_61 : decode cX1_slant 61 = .ok (.ireturn, 1) := by decide +kernel
theorem dX1_slant_62 : decode cX1_slant 62 = .ok (.iconst 0, 1) := by decide +kernel
theorem dX1_slant_63 : decode cX1_slant 63 = .ok (.ireturn, 1) := by decide +kernel
theorem dX1_slant_64 : decode cX1_slant 64 = .ok (.bipush (-7), 2) := by decide +kernel
theorem dX1_slant_66 : decode cX1_slant 66 = .ok (.ireturn, 1) := by decide +kernel
theorem dX1_slant_67 : decode cX1_slant 67 = .ok (.bipush (-10), 2) := by decide +kernel
theorem dX1_slant_69 : decode cX1_slant 69 = .ok (.ireturn, 1) := by decide +kernel
