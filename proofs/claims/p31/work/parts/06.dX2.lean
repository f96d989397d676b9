set_option maxRecDepth 20000 in
theorem ggX2_init_X1_init : GoodIn wsX2_init wsX1_init := goodIn_r _ [16, 17, 2, 3, 18, 19, 20, 26, 27, 28] (by decide +kernel) (by decide +kernel)
set_option maxRecDepth 20000 in
theorem gX2_init_X1_init : GoodIn wsX2_init (wsX1_init) := ggX2_init_X1_init
set_option maxRecDepth 20000 in
theorem ggX2_init_X0_init : GoodIn wsX2_init wsX0_init := goodIn_r _ [22, 23, 2, 3, 18, 24, 25, 38, 39, 40] (by decide +kernel) (by decide +kernel)
set_option maxRecDepth 20000 in
theorem gX2_init_X0_init_n21 : GoodIn wsX2_init (wsX0_init) := ggX2_init_X0_init
theorem dX2_init_0 : decode cX2_init 0 = .ok (.aload_n 0, 1) := by decide +kernel
theorem dX2_init_1 : decode cX2_init 1 = .ok (.invokespecial 3, 3) := by decide +kernel
theorem dX2_init_4 : decode cX2_init 4 = .ok (.aload_n 0, 1) := by decide +kernel
theorem dX2_init_5 : decode cX2_init 5 = .ok (.new 9, 3) := by decide +kernel
theorem dX2_init_8 : decode cX2_init 8 = .ok (.dup, 1) := by decide +kernel
theorem dX2_init_9 : decode cX2_init 9 = .ok (.invokespecial 11, 3) := by decide +kernel
theorem dX2_init_12 : decode cX2_init 12 = .ok (.putfield 12, 3) := by decide +kernel
theorem dX2_init_15 : decode cX2_init 15 = .ok (.aload_n 0, 1) := by decide +kernel
theorem dX2_init_16 : decode cX2_init 16 = .ok (.new 9, 3) := by decide +kernel
theorem dX2_init_19 : decode cX2_init 19 = .ok (.dup, 1) := by decide +kernel
theorem dX2_init_20 : decode cX2_init 20 = .ok (.invokespecial 11, 3) := by decide +kernel
theorem dX2_init_23 : decode cX2_init 23 = .ok (.putfield 16, 3) := by decide +kernel
theorem dX2_init_26 : decode cX2_init 26 = .ok (.aload_n 0, 1) := by decide +kernel
theorem dX2_init_27 : decode cX2_init 27 = .ok (.new 19, 3) := by decide +kernel
theorem dX2_init_30 : decode cX2_init 30 = .ok (.dup, 1) := by decide +kernel
theorem dX2_init_31 : decode cX2_init 31 = .ok (.invokespecial 21, 3) := by decide +kernel
theorem dX2_init_34 : decode cX2_init 34 = .ok (.putfield 22, 3) := by decide +kernel
theorem dX2_init_37 : decode cX2_init 37 = .ok (.aload_n 0, 1) := by decide +kernel
theorem dX2_init_38 : decode cX2_init 38 = .ok (.iconst 3, 1) := by decide +kernel
theorem dX2_init_39 : decode cX2_init 39 = .ok (.putfield 26, 3) := by decide +kernel
theorem dX2_init_42 : decode cX2_init 42 = .ok (.return_, 1) := by decide +kernel
set_option maxRecDepth 20000 in
theorem ggX2_setPlates_X2_isWithin : GoodIn wsX2_setPlates wsX2_isWithin := goodIn_r _ [10] (by decide +kernel) (by decide +kernel)
set_option maxRecDepth 20000 in
theorem gX2_setPlates_X2_isWithin : GoodIn wsX2_setPlates (va_wsS RX2 30 yX2_isWithin wsX2_isWithin) := goodIn_app (goodIn_of _ (by decide +kernel)) ggX2_setPlates_X2_isWithin
set_option maxRecDepth 20000 in
theorem ggX2_setPlates_X1_becomeLike : GoodIn wsX2_setPlates wsX1_becomeLike := goodIn_r _ [15, 16, 17, 18, 19, 14, 20, 21, 22, 23, 24, 25, 26, 27, 28, 29, 30, 31, 32, 33, 34, 63, 64, 65] (by decide +kernel) (by decide +kernel)
set_option maxRecDepth 20000 in
theorem gX2_setPlates_X1_becomeLike : GoodIn wsX2_setPlates (wsV RX2 41 RX1 yX1_becomeLike wsX1_becomeLike) := goodIn_app (goodIn_of _ (by decide +kernel)) ggX2_setPlates_X1_becomeLike
set_option maxRecDepth 20000 in
theorem ggX2_setPlates_X2_requireSafe : GoodIn wsX2_setPlates wsX2_requireSafe := goodIn_ca (goodIn_r _ [38, 39, 40, 41, 42, 43, 44, 45, 14, 46, 26, 27, 28, 29, 30, 47, 48, 49, 50, 16, 17, 18, 19, 20, 21, 51, 52, 53, 54, 55, 56, 57, 58, 59, 60, 61, 62, 63, 64, 65] (by decide +kernel) (by decide +kernel)) (goodIn_sub (fun _ h => List.mem_cons_of_mem _ (List.mem_append_right _ h)) (by decide +kernel))
set_option maxRecDepth 20000 in
theorem gX2_setPlates_X2_requireSafe : GoodIn wsX2_setPlates (wsV RX2 51 RX2 yX2_requireSafe wsX2_requireSafe) := goodIn_app (goodIn_of _ (by decide +kernel)) ggX2_setPlates_X2_requireSafe
theorem dX2_setPlates_0 : decode cX2_setPlates 0 = .ok (.iload_n 1, 1) := by decide +kernel
theorem dX2_setPlates_1 : decode cX2_setPlates 1 = .ok (.iconst 0, 1) := by decide +kernel
theorem dX2_setPlates_2 : decode cX2_setPlates 2 = .ok (.bipush 12, 2) := by decide +kernel
theorem dX2_setPlates_4 : decode cX2_setPlates 4 = .ok (.invokestatic 30, 3) := by decide +kernel
theorem dX2_setPlates_7 : decode cX2_setPlates 7 = .ok (.ifCond .ne 13, 3) := by decide +kernel
theorem dX2_setPlates_10 : decode cX2_setPlates 10 = .ok (.new 34, 3) := by decide +kernel
theorem dX2_setPlates_13 : decode cX2_setPlates 13 = .ok (.dup, 1) := by decide +kernel
theorem dX2_setPlates_14 : decode cX2_setPlates 14 = .ok (.ldc 36, 2) := by decide +kernel
theorem dX2_setPlates_16 : decode cX2_setPlates 16 = .ok (.invokespecial 38, 3) := by decide +kernel
theorem dX2_setPlates_19 : decode cX2_setPlates 19 = .ok (.athrow, 1) := by decide +kernel
theorem dX2_setPlates_20 : decode cX2_setPlates 20 = .ok (.aload_n 0, 1) := by decide +kernel
theorem dX2_setPlates_21 : decode cX2_setPlates 21 = .ok (.getfield 16, 3) := by decide +kernel
theorem dX2_setPlates_24 : decode cX2_setPlates 24 = .ok (.aload_n 0, 1) := by decide +kernel
theorem dX2_setPlates_25 : decode cX2_setPlates 25 = .ok (.getfield 12, 3) := by decide +kernel
theorem dX2_setPlates_28 : decode cX2_setPlates 28 = .ok (.invokevirtual 41, 3) := by decide +kernel
theorem dX2_setPlates_31 : decode cX2_setPlates 31 = .ok (.aload_n 0, 1) := by decide +kernel
theorem dX2_setPlates_32 : decode cX2_setPlates 32 = .ok (.getfield 16, 3) := by decide +kernel
theorem dX2_setPlates_35 : decode cX2_setPlates 35 = .ok (.iload_n 1, 1) := by decide +kernel
theorem dX2_setPlates_36 : decode cX2_setPlates 36 = .ok (.putfield 45, 3) := by decide +kernel
theorem dX2_setPlates_39 : decode cX2_setPlates 39 = .ok (.aload_n 0, 1) := by decide +kernel
theorem dX2_setPlates_40 : decode cX2_setPlates 40 = .ok (.aload_n 0, 1) := by decide +kernel
theorem dX2_setPlates_41 : decode cX2_setPlates 41 = .ok (.getfield 16, 3) := by decide +kernel
theorem dX2_setPlates_44 : decode cX2_setPlates 44 = .ok (.aload_n 0, 1) := by decide +kernel
theorem dX2_setPlates_45 : decode cX2_setPlates 45 = .ok (.getfield 48, 3) := by decide +kernel
theorem dX2_setPlates_48 : decode cX2_setPlates 48 = .ok (.invokevirtual 51, 3) := by decide +kernel
theorem dX2_setPlates_51 : decode cX2_setPlates 51 = .ok (.aload_n 0, 1) := by decide +kernel
theorem dX2_setPlates_52 : decode cX2_setPlates 52 = .ok (.getfield 12, 3) := by decide +kernel
theorem dX2_setPlates_55 : decode cX2_setPlates 55 = .ok (.getfield 45, 3) := by decide +kernel
theorem dX2_setPlates_58 : decode cX2_setPlates 58 = .ok (.istore_n 2, 1) := by decide +kernel
theorem dX2_setPlates_59 : decode cX2_setPlates 59 = .ok (.aload_n 0, 1) := by decide +kernel
theorem dX2_setPlates_60 : decode cX2_setPlates 60 = .ok (.getfield 12, 3) := by decide +kernel
theorem dX2_setPlates_63 : decode cX2_setPlates 63 = .ok (.iload_n 1, 1) := by decide +kernel
theorem dX2_setPlates_64 : decode cX2_setPlates 64 = .ok (.putfield 45, 3) := by decide +kernel
theorem dX2_setPlates_67 : decode cX2_setPlates 67 = .ok (.iload_n 2, 1) := by decide +kernel
theorem dX2_setPlates_68 : decode cX2_setPlates 68 = .ok (.ireturn, 1) := by decide +kernel
set_option maxRecDepth 20000 in
theorem ggX2_setOutrigger_X2_requireSide : GoodIn wsX2_setOutrigger wsX2_requireSide := goodIn_ca (goodIn_r _ [9, 10, 11, 12, 13, 8, 14] (by decide +kernel) (by decide +kernel)) (goodIn_sub (fun _ h => List.mem_cons_of_mem _ (List.mem_append_left _ (List.mem_append_right _ h))) (by decide +kernel))
set_option maxRecDepth 20000 in
theorem gX2_setOutrigger_X2_requireSide : GoodIn wsX2_setOutrigger (va_wsS RX2 55 yX2_requireSide wsX2_requireSide) := goodIn_app (goodIn_of _ (by decide +kernel)) ggX2_setOutrigger_X2_requireSide
set_option maxRecDepth 20000 in
theorem ggX2_setOutrigger_X2_isWithin : GoodIn wsX2_setOutrigger wsX2_isWithin := goodIn_r _ [14] (by decide +kernel) (by decide +kernel)
set_option maxRecDepth 20000 in
theorem gX2_setOutrigger_X2_isWithin : GoodIn wsX2_setOutrigger (va_wsS RX2 30 yX2_isWithin wsX2_isWithin) := goodIn_app (goodIn_of _ (by decide +kernel)) ggX2_setOutrigger_X2_isWithin
set_option maxRecDepth 20000 in
theorem ggX2_setOutrigger_X2_requireNoLoad : GoodIn wsX2_setOutrigger wsX2_requireNoLoad := goodIn_ca (goodIn_r _ [18, 19, 20, 5, 64, 65, 66, 67, 68, 69, 70, 71, 72] (by decide +kernel) (by decide +kernel)) (goodIn_sub (fun _ h => List.mem_cons_of_mem _ (List.mem_append_right _ h)) (by decide +kernel))
set_option maxRecDepth 20000 in
theorem gX2_setOutrigger_X2_requireNoLoad : GoodIn wsX2_setOutrigger (wsV RX2 61 RX2 yX2_requireNoLoad wsX2_requireNoLoad) := goodIn_app (goodIn_of _ (by decide +kernel)) ggX2_setOutrigger_X2_requireNoLoad
set_option maxRecDepth 20000 in
theorem ggX2_setOutrigger_X1_becomeLike : GoodIn wsX2_setOutrigger wsX1_becomeLike := goodIn_r _ [25, 26, 27, 28, 29, 24, 30, 31, 32, 33, 34, 35, 36, 37, 38, 39, 40, 41, 42, 43, 44, 73, 74, 75] (by decide +kernel) (by decide +kernel)
set_option maxRecDepth 20000 in
theorem gX2_setOutrigger_X1_becomeLike : GoodIn wsX2_setOutrigger (wsV RX2 41 RX1 yX1_becomeLike wsX1_becomeLike) := goodIn_app (goodIn_of _ (by decide +kernel)) ggX2_setOutrigger_X1_becomeLike
set_option maxRecDepth 20000 in
theorem ggX2_setOutrigger_X1_draw : GoodIn wsX2_setOutrigger wsX1_draw := goodIn_r _ [35, 31, 73, 74, 75] (by decide +kernel) (by decide +kernel)
set_option maxRecDepth 20000 in
theorem gX2_setOutrigger_X1_draw : GoodIn wsX2_setOutrigger (wsV RX2 64 RX1 yX1_draw wsX1_draw) := goodIn_app (goodIn_of _ (by decide +kernel)) ggX2_setOutrigger_X1_draw
set_option maxRecDepth 20000 in
theorem ggX2_setOutrigger_X2_requireSafe : GoodIn wsX2_setOutrigger wsX2_requireSafe := goodIn_ca (goodIn_r _ [49, 19, 20, 50, 51, 52, 53, 54, 24, 55, 36, 37, 38, 39, 40, 56, 57, 58, 59, 26, 27, 28, 29, 30, 31, 60, 61, 62, 64, 65, 66, 67, 68, 69, 70, 71, 72, 73, 74, 75] (by decide +kernel) (by decide +kernel)) (goodIn_sub (fun _ h => List.mem_cons_of_mem _ (List.mem_append_right _ h)) (by decide +kernel))
set_option maxRecDepth 20000 in
theorem gX2_setOutrigger_X2_requireSafe : GoodIn wsX2_setOutrigger (wsV RX2 51 RX2 yX2_requireSafe wsX2_requireSafe) := goodIn_app (goodIn_of _ (by decide +kernel)) ggX2_setOutrigger_X2_requireSafe
set_option maxRecDepth 20000 in
theorem ggX2_setOutrigger_X1_drawn : GoodIn wsX2_setOutrigger wsX1_drawn := goodIn_r _ [30, 31, 73, 74, 75] (by decide +kernel) (by decide +kernel)
set_option maxRecDepth 20000 in
theorem gX2_setOutrigger_X1_drawn : GoodIn wsX2_setOutrigger (wsV RX2 68 RX1 yX1_drawn wsX1_drawn) := goodIn_app (goodIn_of _ (by decide +kernel)) ggX2_setOutrigger_X1_drawn
theorem dX2_setOutrigger_0 : decode cX2_setOutrigger 0 = .ok (.iload_n 1, 1) := by decide +kernel
theorem dX2_setOutrigger_1 : decode cX2_setOutrigger 1 = .ok (.invokestatic 55, 3) := by decide +kernel
theorem dX2_setOutrigger_4 : decode cX2_setOutrigger 4 = .ok (.iload_n 2, 1) := by decide +kernel
theorem dX2_setOutrigger_5 : decode cX2_setOutrigger 5 = .ok (.iconst 0, 1) := by decide +kernel
theorem dX2_setOutrigger_6 : decode cX2_setOutrigger 6 = .ok (.bipush 6, 2) := by decide +kernel
theorem dX2_setOutrigger_8 : decode cX2_setOutrigger 8 = .ok (.invokestatic 30, 3) := by decide +kernel
theorem dX2_setOutrigger_11 : decode cX2_setOutrigger 11 = .ok (.ifCond .ne 13, 3) := by decide +kernel
theorem dX2_setOutrigger_14 : decode cX2_setOutrigger 14 = .ok (.new 34, 3) := by decide +kernel
theorem dX2_setOutrigger_17 : decode cX2_setOutrigger 17 = .ok (.dup, 1) := by decide +kernel
theorem dX2_setOutrigger_18 : decode cX2_setOutrigger 18 = .ok (.ldc 59, 2) := by decide +kernel
theorem dX2_setOutrigger_20 : decode cX2_setOutrigger 20 = .ok (.invokespecial 38, 3) := by decide +kernel
theorem dX2_setOutrigger_23 : decode cX2_setOutrigger 23 = .ok (.athrow, 1) := by decide +kernel
theorem dX2_setOutrigger_24 : decode cX2_setOutrigger 24 = .ok (.aload_n 0, 1) := by decide +kernel
theorem dX2_setOutrigger_25 : decode cX2_setOutrigger 25 = .ok (.invokevirtual 61, 3) := by decide +kernel
theorem dX2_setOutrigger_28 : decode cX2_setOutrigger 28 = .ok (.aload_n 0, 1) := by decide +kernel
theorem dX2_setOutrigger_29 : decode cX2_setOutrigger 29 = .ok (.getfield 16, 3) := by decide +kernel
theorem dX2_setOutrigger_32 : decode cX2_setOutrigger 32 = .ok (.aload_n 0, 1) := by decide +kernel
theorem dX2_setOutrigger_33 : decode cX2_setOutrigger 33 = .ok (.getfield 12, 3) := by decide +kernel
theorem dX2_setOutrigger_36 : decode cX2_setOutrigger 36 = .ok (.invokevirtual 41, 3) := by decide +kernel
theorem dX2_setOutrigger_39 : decode cX2_setOutrigger 39 = .ok (.aload_n 0, 1) := by decide +kernel
theorem dX2_setOutrigger_40 : decode cX2_setOutrigger 40 = .ok (.getfield 16, 3) := by decide +kernel
theorem dX2_setOutrigger_43 : decode cX2_setOutrigger 43 = .ok (.iload_n 1, 1) := by decide +kernel
theorem dX2_setOutrigger_44 : decode cX2_setOutrigger 44 = .ok (.iload_n 2, 1) := by decide +kernel
theorem dX2_setOutrigger_45 : decode cX2_setOutrigger 45 = .ok (.invokevirtual 64, 3) := by decide +kernel
theorem dX2_setOutrigger_48 : decode cX2_setOutrigger 48 = .ok (.aload_n 0, 1) := by decide +kernel
theorem dX2_setOutrigger_49 : decode cX2_setOutrigger 49 = .ok (.aload_n 0, 1) := by decide +kernel
theorem dX2_setOutrigger_50 : decode cX2_setOutrigger 50 = .ok (.getfield 16, 3) := by decide +kernel
theorem dX2_setOutrigger_53 : decode cX2_setOutrigger 53 = .ok (.aload_n 0, 1) := by decide +kernel
theorem dX2_setOutrigger_54 : decode cX2_setOutrigger 54 = .ok (.getfield 48, 3) := by decide +kernel
theorem dX2_setOutrigger_57 : decode cX2_setOutrigger 57 = .ok (.invokevirtual 51, 3) := by decide +kernel
theorem dX2_setOutrigger_60 : decode cX2_setOutrigger 60 = .ok (.aload_n 0, 1) := by decide +kernel
theorem dX2_setOutrigger_61 : decode cX2_setOutrigger 61 = .ok (.getfield 12, 3) := by decide +kernel
theorem dX2_setOutrigger_64 : decode cX2_setOutrigger 64 = .ok (.iload_n 1, 1) := by decide +kernel
theorem dX2_setOutrigger_65 : decode cX2_setOutrigger 65 = .ok (.invokevirtual 68, 3) := by decide +kernel
theorem dX2_setOutrigger_68 : decode cX2_setOutrigger 68 = .ok (.istore_n 3, 1) := by decide +kernel
theorem dX2_setOutrigger_69 : decode cX2_setOutrigger 69 = .ok (.aload_n 0, 1) := by decide +kernel
theorem dX2_setOutrigger_70 : decode cX2_setOutrigger 70 = .ok (.getfield 12, 3) := by decide +kernel
theorem dX2_setOutrigger_73 : decode cX2_setOutrigger 73 = .ok (.iload_n 1, 1) := by decide +kernel
theorem dX2_setOutrigger_74 : decode cX2_setOutrigger 74 = .ok (.iload_n 2, 1) := by decide +kernel
theorem dX2_setOutrigger_75 : decode cX2_setOutrigger 75 = .ok (.invokevirtual 64, 3) := by decide +kernel
theorem dX2_setOutrigger_78 : decode cX2_setOutrigger 78 = .ok (.iload_n 3, 1) := by decide +kernel
theorem dX2_setOutrigger_79 : decode cX2_setOutrigger 79 = .ok (.ireturn, 1) := by decide +kernel
set_option maxRecDepth 20000 in
theorem ggX2_setLimit_X2_requireReach : GoodIn wsX2_setLimit wsX2_requireReach := goodIn_ca (goodIn_r _ [9, 1, 2, 10, 11, 8, 12, 13, 14, 15] (by decide +kernel) (by decide +kernel)) (goodIn_sub (fun _ h => List.mem_cons_of_mem _ (List.mem_append_left _ (List.mem_append_right _ h))) (by decide +kernel))
set_option maxRecDepth 20000 in
theorem gX2_setLimit_X2_requireReach : GoodIn wsX2_setLimit (va_wsS RX2 72 yX2_requireReach wsX2_requireReach) := goodIn_app (goodIn_of _ (by decide +kernel)) ggX2_setLimit_X2_requireReach
set_option maxRecDepth 20000 in
theorem ggX2_setLimit_X2_isWithin : GoodIn wsX2_setLimit wsX2_isWithin := goodIn_r _ [15] (by decide +kernel) (by decide +kernel)
set_option maxRecDepth 20000 in
theorem gX2_setLimit_X2_isWithin : GoodIn wsX2_setLimit (va_wsS RX2 30 yX2_isWithin wsX2_isWithin) := goodIn_app (goodIn_of _ (by decide +kernel)) ggX2_setLimit_X2_isWithin
set_option maxRecDepth 20000 in
theorem ggX2_setLimit_X1_becomeLike : GoodIn wsX2_setLimit wsX1_becomeLike := goodIn_r _ [20, 21, 22, 23, 24, 19, 25, 26, 27, 28, 29, 30, 31, 32, 33, 34, 35, 36, 37, 38, 39, 70, 71, 72] (by decide +kernel) (by decide +kernel)
set_option maxRecDepth 20000 in
theorem gX2_setLimit_X1_becomeLike : GoodIn wsX2_setLimit (wsV RX2 41 RX1 yX1_becomeLike wsX1_becomeLike) := goodIn_app (goodIn_of _ (by decide +kernel)) ggX2_setLimit_X1_becomeLike
set_option maxRecDepth 20000 in
theorem ggX2_setLimit_X1_allow : GoodIn wsX2_setLimit wsX1_allow := goodIn_r _ [39, 35, 70, 71, 72] (by decide +kernel) (by decide +kernel)
set_option maxRecDepth 20000 in
theorem gX2_setLimit_X1_allow : GoodIn wsX2_setLimit (wsV RX2 77 RX1 yX1_allow wsX1_allow) := goodIn_app (goodIn_of _ (by decide +kernel)) ggX2_setLimit_X1_allow
set_option maxRecDepth 20000 in
theorem ggX2_setLimit_X2_requireSafe : GoodIn wsX2_setLimit wsX2_requireSafe := goodIn_ca (goodIn_r _ [44, 45, 46, 47, 48, 49, 50, 51, 19, 52, 31, 32, 33, 34, 35, 53, 54, 55, 56, 21, 22, 23, 24, 25, 26, 57, 58, 59, 61, 62, 63, 64, 65, 66, 67, 68, 69, 70, 71, 72] (by decide +kernel) (by decide +kernel)) (goodIn_sub (fun _ h => List.mem_cons_of_mem _ (List.mem_append_right _ h)) (by decide +kernel))
set_option maxRecDepth 20000 in
theorem gX2_setLimit_X2_requireSafe : GoodIn wsX2_setLimit (wsV RX2 51 RX2 yX2_requireSafe wsX2_requireSafe) := goodIn_app (goodIn_of _ (by decide +kernel)) ggX2_setLimit_X2_requireSafe
set_option maxRecDepth 20000 in
theorem ggX2_setLimit_X1_allowed : GoodIn wsX2_setLimit wsX1_allowed := goodIn_r _ [34, 35, 70, 71, 72] (by decide +kernel) (by decide +kernel)
set_option maxRecDepth 20000 in
theorem gX2_setLimit_X1_allowed : GoodIn wsX2_setLimit (wsV RX2 80 RX1 yX1_allowed wsX1_allowed) := goodIn_app (goodIn_of _ (by decide +kernel)) ggX2_setLimit_X1_allowed
theorem dX2_setLimit_0 : decode cX2_setLimit 0 = .ok (.iload_n 1, 1) := by decide +kernel
theorem dX2_setLimit_1 : decode cX2_setLimit 1 = .ok (.invokestatic 72, 3) := by decide +kernel
theorem dX2_setLimit_4 : decode cX2_setLimit 4 = .ok (.iload_n 2, 1) := by decide +kernel
theorem dX2_setLimit_5 : decode cX2_setLimit 5 = .ok (.iconst 0, 1) := by decide +kernel
theorem dX2_setLimit_6 : decode cX2_setLimit 6 = .ok (.bipush 60, 2) := by decide +kernel
theorem dX2_setLimit_8 : decode cX2_setLimit 8 = .ok (.invokestatic 30, 3) := by decide +kernel
theorem dX2_setLimit_11 : decode cX2_setLimit 11 = .ok (.ifCond .ne 13, 3) := by decide +kernel
theorem dX2_setLimit_14 : decode cX2_setLimit 14 = .ok (.new 34, 3) := by decide +kernel
theorem dX2_setLimit_17 : decode cX2_setLimit 17 = .ok (.dup, 1) := by decide +kernel
theorem dX2_setLimit_18 : decode cX2_setLimit 18 = .ok (.ldc 75, 2) := by decide +kernel
theorem dX2_setLimit_20 : decode cX2_setLimit 20 = .ok (.invokespecial 38, 3) := by decide +kernel
theorem dX2_setLimit_23 : decode cX2_setLimit 23 = .ok (.athrow, 1) := by decide +kernel
theorem dX2_setLimit_24 : decode cX2_setLimit 24 = .ok (.aload_n 0, 1) := by decide +kernel
theorem dX2_setLimit_25 : decode cX2_setLimit 25 = .ok (.getfield 16, 3) := by decide +kernel
theorem dX2_setLimit_28 : decode cX2_setLimit 28 = .ok (.aload_n 0, 1) := by decide +kernel
theorem dX2_setLimit_29 : decode cX2_setLimit 29 = .ok (.getfield 12, 3) := by decide +kernel
theorem dX2_setLimit_32 : decode cX2_setLimit 32 = .ok (.invokevirtual 41, 3) := by decide +kernel
theorem dX2_setLimit_35 : decode cX2_setLimit 35 = .ok (.aload_n 0, 1) := by decide +kernel
theorem dX2_setLimit_36 : decode cX2_setLimit 36 = .ok (.getfield 16, 3) := by decide +kernel
theorem dX2_setLimit_39 : decode cX2_setLimit 39 = .ok (.iload_n 1, 1) := by decide +kernel
theorem dX2_setLimit_40 : decode cX2_setLimit 40 = .ok (.iload_n 2, 1) := by decide +kernel
theorem dX2_setLimit_41 : decode cX2_setLimit 41 = .ok (.invokevirtual 77, 3) := by decide +kernel
theorem dX2_setLimit_44 : decode cX2_setLimit 44 = .ok (.aload_n 0, 1) := by decide +kernel
theorem dX2_setLimit_45 : decode cX2_setLimit 45 = .ok (.aload_n 0, 1) := by decide +kernel
theorem dX2_setLimit_46 : decode cX2_setLimit 46 = .ok (.getfield 16, 3) := by decide +kernel
theorem dX2_setLimit_49 : decode cX2_setLimit 49 = .ok (.aload_n 0, 1) := by decide +kernel
theorem dX2_setLimit_50 : decode cX2_setLimit 50 = .ok (.getfield 48, 3) := by decide +kernel
theorem dX2_setLimit_53 : decode cX2_setLimit 53 = .ok (.invokevirtual 51, 3) := by decide +kernel
theorem dX2_setLimit_56 : decode cX2_setLimit 56 = .ok (.aload_n 0, 1) := by decide +kernel
theorem dX2_setLimit_57 : decode cX2_setLimit 57 = .ok (.getfield 12, 3) := by decide +kernel
theorem dX2_setLimit_60 : decode cX2_setLimit 60 = .ok (.iload_n 1, 1) := by decide +kernel
theorem dX2_setLimit_61 : decode cX2_setLimit 61 = .ok (.invokevirtual 80, 3) := by decide +kernel
theorem dX2_setLimit_64 : decode cX2_setLimit 64 = .ok (.istore_n 3, 1) := by decide +kernel
theorem dX2_setLimit_65 : decode cX2_setLimit 65 = .ok (.aload_n 0, 1) := by decide +kernel
theorem dX2_setLimit_66 : decode cX2_setLimit 66 = .ok (.getfield 12, 3) := by decide +kernel
theorem dX2_setLimit_69 : decode cX2_setLimit 69 = .ok (.iload_n 1, 1) := by decide +kernel
theorem dX2_setLimit_70 : decode cX2_setLimit 70 = .ok (.iload_n 2, 1) := by decide +kernel
theorem dX2_setLimit_71 : decode cX2_setLimit 71 = .ok (.invokevirtual 77, 3) := by decide +kernel
theorem dX2_setLimit_74 : decode cX2_setLimit 74 = .ok (.iload_n 3, 1) := by decide +kernel
theorem dX2_setLimit_75 : decode cX2_setLimit 75 = .ok (.ireturn, 1) := by decide +kernel
set_option maxRecDepth 20000 in
theorem ggX2_lift_X2_isWithin : GoodIn wsX2_lift wsX2_isWithin := goodIn_r _ [10] (by decide +kernel) (by decide +kernel)
set_option maxRecDepth 20000 in
theorem gX2_lift_X2_isWithin : GoodIn wsX2_lift (va_wsS RX2 30 yX2_isWithin wsX2_isWithin) := goodIn_app (goodIn_of _ (by decide +kernel)) ggX2_lift_X2_isWithin
set_option maxRecDepth 20000 in
theorem ggX2_lift_X2_requireNoLoad : GoodIn wsX2_lift wsX2_requireNoLoad := goodIn_ca (goodIn_r _ [14, 15, 16, 4, 46, 47, 48, 49, 50, 51, 52, 53, 54] (by decide +kernel) (by decide +kernel)) (goodIn_sub (fun _ h => List.mem_cons_of_mem _ (List.mem_append_right _ h)) (by decide +kernel))
set_option maxRecDepth 20000 in
theorem gX2_lift_X2_requireNoLoad : GoodIn wsX2_lift (wsV RX2 61 RX2 yX2_requireNoLoad wsX2_requireNoLoad) := goodIn_app (goodIn_of _ (by decide +kernel)) ggX2_lift_X2_requireNoLoad
set_option maxRecDepth 20000 in
theorem ggX2_lift_X2_requireSafe : GoodIn wsX2_lift wsX2_requireSafe := goodIn_ca (goodIn_r _ [20, 15, 16, 21, 22, 23, 24, 25, 26, 27, 28, 29, 30, 31, 32, 33, 34, 35, 36, 37, 38, 39, 40, 41, 42, 43, 44, 45, 46, 47, 48, 49, 50, 51, 52, 53, 54, 55, 56, 57] (by decide +kernel) (by decide +kernel)) (goodIn_sub (fun _ h => List.mem_cons_of_mem _ (List.mem_append_right _ h)) (by decide +kernel))
set_option maxRecDepth 20000 in
theorem gX2_lift_X2_requireSafe : GoodIn wsX2_lift (wsV RX2 51 RX2 yX2_requireSafe wsX2_requireSafe) := goodIn_app (goodIn_of _ (by decide +kernel)) ggX2_lift_X2_requireSafe
theorem dX2_lift_0 : decode cX2_lift 0 = .ok (.iload_n 1, 1) := by decide +kernel
theorem dX2_lift_1 : decode cX2_lift 1 = .ok (.iconst 1, 1) := by decide +kernel
theorem dX2_lift_2 : decode cX2_lift 2 = .ok (.bipush 60, 2) := by decide +kernel
theorem dX2_lift_4 : decode cX2_lift 4 = .ok (.invokestatic 30, 3) := by decide +kernel
theorem dX2_lift_7 : decode cX2_lift 7 = .ok (.ifCond .ne 13, 3) := by decide +kernel
theorem dX2_lift_10 : decode cX2_lift 10 = .ok (.new 34, 3) := by decide +kernel
theorem dX2_lift_13 : decode cX2_lift 13 = .ok (.dup, 1) := by decide +kernel
theorem dX2_lift_14 : decode cX2_lift 14 = .ok (.ldc 83, 2) := by decide +kernel
theorem dX2_lift_16 : decode cX2_lift 16 = .ok (.invokespecial 38, 3) := by decide +kernel
theorem dX2_lift_19 : decode cX2_lift 19 = .ok (.athrow, 1) := by decide +kernel
theorem dX2_lift_20 : decode cX2_lift 20 = .ok (.aload_n 0, 1) := by decide +kernel
theorem dX2_lift_21 : decode cX2_lift 21 = .ok (.invokevirtual 61, 3) := by decide +kernel
theorem dX2_lift_24 : decode cX2_lift 24 = .ok (.aload_n 0, 1) := by decide +kernel
theorem dX2_lift_25 : decode cX2_lift 25 = .ok (.aload_n 0, 1) := by decide +kernel
theorem dX2_lift_26 : decode cX2_lift 26 = .ok (.getfield 12, 3) := by decide +kernel
theorem dX2_lift_29 : decode cX2_lift 29 = .ok (.iload_n 1, 1) := by decide +kernel
theorem dX2_lift_30 : decode cX2_lift 30 = .ok (.invokevirtual 51, 3) := by decide +kernel
theorem dX2_lift_33 : decode cX2_lift 33 = .ok (.aload_n 0, 1) := by decide +kernel
theorem dX2_lift_34 : decode cX2_lift 34 = .ok (.iload_n 1, 1) := by decide +kernel
theorem dX2_lift_35 : decode cX2_lift 35 = .ok (.putfield 48, 3) := by decide +kernel
theorem dX2_lift_38 : decode cX2_lift 38 = .ok (.aload_n 0, 1) := by decide +kernel
theorem dX2_lift_39 : decode cX2_lift 39 = .ok (.dup, 1) := by decide +kernel
theorem dX2_lift_40 : decode cX2_lift 40 = .ok (.getfield 85, 3) := by decide +kernel
theorem dX2_lift_43 : decode cX2_lift 43 = .ok (.iconst 1, 1) := by decide +kernel
theorem dX2_lift_44 : decode cX2_lift 44 = .ok (.iadd, 1) := by decide +kernel
theorem dX2_lift_45 : decode cX2_lift 45 = .ok (.putfield 85, 3) := by decide +kernel
theorem dX2_lift_48 : decode cX2_lift 48 = .ok (.aload_n 0, 1) := by decide +kernel
theorem dX2_lift_49 : decode cX2_lift 49 = .ok (.dup, 1) := by decide +kernel
theorem dX2_lift_50 : decode cX2_lift 50 = .ok (.getfield 88, 3) := by decide +kernel
theorem dX2_lift_53 : decode cX2_lift 53 = .ok (.iload_n 1, 1) := by decide +kernel
theorem dX2_lift_54 : decode cX2_lift 54 = .ok (.iadd, 1) := by decide +kernel
theorem dX2_lift_55 : decode cX2_lift 55 = .ok (.putfield 88, 3) := by decide +kernel
theorem dX2_lift_58 : decode cX2_lift 58 = .ok (.aload_n 0, 1) := by decide +kernel
theorem dX2_lift_59 : decode cX2_lift 59 = .ok (.getfield 85, 3) := by decide +kernel
theorem dX2_lift_62 : decode cX2_lift 62 = .ok (.ireturn, 1) := by decide +kernel
set_option maxRecDepth 20000 in
theorem ggX2_setDown_X2_requireSafe : GoodIn wsX2_setDown wsX2_requireSafe := goodIn_ca (goodIn_r _ [9, 1, 2, 10, 11, 12, 13, 14, 15, 16, 17, 18, 19, 20, 21, 22, 23, 24, 25, 26, 27, 28, 29, 30, 31, 32, 33, 34, 35, 36, 37, 38, 39, 40, 41, 42, 43, 44, 45, 46] (by decide +kernel) (by decide +kernel)) (goodIn_sub (fun _ h => List.mem_cons_of_mem _ (List.mem_append_right _ h)) (by decide +kernel))
set_option maxRecDepth 20000 in
theorem gX2_setDown_X2_requireSafe : GoodIn wsX2_setDown (wsV RX2 51 RX2 yX2_requireSafe wsX2_requireSafe) := goodIn_app (goodIn_of _ (by decide +kernel)) ggX2_setDown_X2_requireSafe
theorem dX2_setDown_0 : decode cX2_setDown 0 = .ok (.aload_n 0, 1) := by decide +kernel
theorem dX2_setDown_1 : decode cX2_setDown 1 = .ok (.getfield 48, 3) := by decide +kernel
theorem dX2_setDown_4 : decode cX2_setDown 4 = .ok (.ifCond .ne 13, 3) := by decide +kernel
theorem dX2_setDown_7 : decode cX2_setDown 7 = .ok (.new 91, 3) := by decide +kernel
theorem dX2_setDown_10 : decode cX2_setDown 10 = .ok (.dup, 1) := by decide +kernel
theorem dX2_setDown_11 : decode cX2_setDown 11 = .ok (.ldc 93, 2) := by decide +kernel
theorem dX2_setDown_13 : decode cX2_setDown 13 = .ok (.invokespecial 95, 3) := by decide +kernel
theorem dX2_setDown_16 : decode cX2_setDown 16 = .ok (.athrow, 1) := by decide +kernel
theorem dX2_setDown_17 : decode cX2_setDown 17 = .ok (.aload_n 0, 1) := by decide +kernel
theorem dX2_setDown_18 : decode cX2_setDown 18 = .ok (.aload_n 0, 1) := by decide +kernel
theorem dX2_setDown_19 : decode cX2_setDown 19 = .ok (.getfield 12, 3) := by decide +kernel
theorem dX2_setDown_22 : decode cX2_setDown 22 = .ok (.iconst 0, 1) := by decide +kernel
theorem dX2_setDown_23 : decode cX2_setDown 23 = .ok (.invokevirtual 51, 3) := by decide +kernel
theorem dX2_setDown_26 : decode cX2_setDown 26 = .ok (.aload_n 0, 1) := by decide +kernel
theorem dX2_setDown_27 : decode cX2_setDown 27 = .ok (.getfield 48, 3) := by decide +kernel
theorem dX2_setDown_30 : decode cX2_setDown 30 = .ok (.istore_n 1, 1) := by decide +kernel
theorem dX2_setDown_31 : decode cX2_setDown 31 = .ok (.aload_n 0, 1) := by decide +kernel
theorem dX2_setDown_32 : decode cX2_setDown 32 = .ok (.iconst 0, 1) := by decide +kernel
theorem dX2_setDown_33 : decode cX2_setDown 33 = .ok (.putfield 48, 3) := by decide +kernel
theorem dX2_setDown_36 : decode cX2_setDown 36 = .ok (.iload_n 1, 1) := by decide +kernel
theorem dX2_setDown_37 : decode cX2_setDown 37 = .ok (.ireturn, 1) := by decide +kernel
set_option maxRecDepth 20000 in
theorem ggX2_swing_X2_isWithin : GoodIn wsX2_swing wsX2_isWithin := goodIn_r _ [10] (by decide +kernel) (by decide +kernel)
set_option maxRecDepth 20000 in
theorem gX2_swing_X2_isWithin : GoodIn wsX2_swing (va_wsS RX2 30 yX2_isWithin wsX2_isWithin) := goodIn_app (goodIn_of _ (by decide +kernel)) ggX2_swing_X2_isWithin
set_option maxRecDepth 20000 in
theorem ggX2_swing_X2_turned : GoodIn wsX2_swing wsX2_turned := goodIn_r _ [13] (by decide +kernel) (by decide +kernel)
set_option maxRecDepth 20000 in
theorem gX2_swing_X2_turned : GoodIn wsX2_swing (va_wsS RX2 101 yX2_turned wsX2_turned) := goodIn_app (goodIn_of _ (by decide +kernel)) ggX2_swing_X2_turned
set_option maxRecDepth 20000 in
theorem ggX2_swing_X1_isSafe : GoodIn wsX2_swing wsX1_isSafe := goodIn_r _ [18, 19, 20, 21, 17, 22, 23, 24, 25, 26, 27, 28, 29, 30, 31, 32, 33, 34, 35, 36, 51, 52, 53] (by decide +kernel) (by decide +kernel)
set_option maxRecDepth 20000 in
theorem gX2_swing_X1_isSafe : GoodIn wsX2_swing (wsV RX2 105 RX1 yX1_isSafe wsX1_isSafe) := goodIn_app (goodIn_of _ (by decide +kernel)) ggX2_swing_X1_isSafe
set_option maxRecDepth 20000 in
theorem ggX2_swing_X2_countMoves : GoodIn wsX2_swing wsX2_countMoves := goodIn_r _ [40, 4, 41, 42, 43, 44, 45, 46, 47, 48, 49, 50] (by decide +kernel) (by decide +kernel)
set_option maxRecDepth 20000 in
theorem gX2_swing_X2_countMoves : GoodIn wsX2_swing (wsV RX2 108 RX2 yX2_countMoves wsX2_countMoves) := goodIn_app (goodIn_of _ (by decide +kernel)) ggX2_swing_X2_countMoves
theorem dX2_swing_0 : decode cX2_swing 0 = .ok (.iload_n 1, 1) := by decide +kernel
theorem dX2_swing_1 : decode cX2_swing 1 = .ok (.iconst 1, 1) := by decide +kernel
theorem dX2_swing_2 : decode cX2_swing 2 = .ok (.bipush 8, 2) := by decide +kernel
theorem dX2_swing_4 : decode cX2_swing 4 = .ok (.invokestatic 30, 3) := by decide +kernel
theorem dX2_swing_7 : decode cX2_swing 7 = .ok (.ifCond .ne 13, 3) := by decide +kernel
theorem dX2_swing_10 : decode cX2_swing 10 = .ok (.new 34, 3) := by decide +kernel
theorem dX2_swing_13 : decode cX2_swing 13 = .ok (.dup, 1) := by decide +kernel
theorem dX2_swing_14 : decode cX2_swing 14 = .ok (.ldc 96, 2) := by decide +kernel
theorem dX2_swing_16 : decode cX2_swing 16 = .ok (.invokespecial 38, 3) := by decide +kernel
theorem dX2_swing_19 : decode cX2_swing 19 = .ok (.athrow, 1) := by decide +kernel
theorem dX2_swing_20 : decode cX2_swing 20 = .ok (.iload_n 2, 1) := by decide +kernel
theorem dX2_swing_21 : decode cX2_swing 21 = .ok (.ifCond .eq 7, 3) := by decide +kernel
theorem dX2_swing_24 : decode cX2_swing 24 = .ok (.iconst 1, 1) := by decide +kernel
theorem dX2_swing_25 : decode cX2_swing 25 = .ok (.goto 4, 3) := by decide +kernel
theorem dX2_swing_28 : decode cX2_swing 28 = .ok (.iconst (-1), 1) := by decide +kernel
theorem dX2_swing_29 : decode cX2_swing 29 = .ok (.istore_n 3, 1) := by decide +kernel
theorem dX2_swing_30 : decode cX2_swing 30 = .ok (.iconst 0, 1) := by decide +kernel
theorem dX2_swing_31 : decode cX2_swing 31 = .ok (.istore 4, 2) := by decide +kernel
theorem dX2_swing_33 : decode cX2_swing 33 = .ok (.iload 4, 2) := by decide +kernel
theorem dX2_swing_35 : decode cX2_swing 35 = .ok (.iload_n 1, 1) := by decide +kernel
theorem dX2_swing_36 : decode cX2_swing 36 = .ok (.if_icmp .ge 47, 3) := by decide +kernel
theorem dX2_swing_39 : decode cX2_swing 39 = .ok (.aload_n 0, 1) := by decide +kernel
theorem dX2_swing_40 : decode cX2_swing 40 = .ok (.getfield 12, 3) := by decide +kernel
theorem dX2_swing_43 : decode cX2_swing 43 = .ok (.aload_n 0, 1) := by decide +kernel
theorem dX2_swing_44 : decode cX2_swing 44 = .ok (.getfield 48, 3) := by decide +kernel
theorem dX2_swing_47 : decode cX2_swing 47 = .ok (.aload_n 0, 1) := by decide +kernel
theorem dX2_swing_48 : decode cX2_swing 48 = .ok (.getfield 98, 3) := by decide +kernel
theorem dX2_swing_51 : decode cX2_swing 51 = .ok (.iload_n 3, 1) := by decide +kernel
theorem dX2_swing_52 : decode cX2_swing 52 = .ok (.invokestatic 101, 3) := by decide +kernel
theorem dX2_swing_55 : decode cX2_swing 55 = .ok (.aload_n 0, 1) := by decide +kernel
theorem dX2_swing_56 : decode cX2_swing 56 = .ok (.getfield 26, 3) := by decide +kernel
theorem dX2_swing_59 : decode cX2_swing 59 = .ok (.invokevirtual 105, 3) := by decide +kernel
theorem dX2_swing_62 : decode cX2_swing 62 = .ok (.ifCond .eq 21, 3) := by decide +kernel
theorem dX2_swing_65 : decode cX2_swing 65 = .ok (.aload_n 0, 1) := by decide +kernel
theorem dX2_swing_66 : decode cX2_swing 66 = .ok (.aload_n 0, 1) := by decide +kernel
theorem dX2_swing_67 : decode cX2_swing 67 = .ok (.getfield 98, 3) := by decide +kernel
theorem dX2_swing_70 : decode cX2_swing 70 = .ok (.iload_n 3, 1) := by decide +kernel
theorem dX2_swing_71 : decode cX2_swing 71 = .ok (.invokestatic 101, 3) := by decide +kernel
theorem dX2_swing_74 : decode cX2_swing 74 = .ok (.putfield 98, 3) := by decide +kernel
theorem dX2_swing_77 : decode cX2_swing 77 = .ok (.iinc 4 1, 3) := by decide +kernel
theorem dX2_swing_80 : decode cX2_swing 80 = .ok (.goto (-47), 3) := by decide +kernel
theorem dX2_swing_83 : decode cX2_swing 83 = .ok (.aload_n 0, 1) := by decide +kernel
theorem dX2_swing_84 : decode cX2_swing 84 = .ok (.iload 4, 2) := by decide +kernel
theorem dX2_swing_86 : decode cX2_swing 86 = .ok (.invokevirtual 108, 3) := by decide +kernel
theorem dX2_swing_89 : decode cX2_swing 89 = .ok (.iload 4, 2) := by decide +kernel
theorem dX2_swing_91 : decode cX2_swing 91 = .ok (.ireturn, 1) := by decide +kernel
set_option maxRecDepth 20000 in
theorem ggX2_stretch_X2_isWithin : GoodIn wsX2_stretch wsX2_isWithin := goodIn_r _ [10] (by decide +kernel) (by decide +kernel)
set_option maxRecDepth 20000 in
theorem gX2_stretch_X2_isWithin : GoodIn wsX2_stretch (va_wsS RX2 30 yX2_isWithin wsX2_isWithin) := goodIn_app (goodIn_of _ (by decide +kernel)) ggX2_stretch_X2_isWithin
set_option maxRecDepth 20000 in
theorem ggX2_stretch_X2_isReach : GoodIn wsX2_stretch wsX2_isReach := goodIn_r _ [13, 7, 8, 9, 10] (by decide +kernel) (by decide +kernel)
set_option maxRecDepth 20000 in
theorem gX2_stretch_X2_isReach : GoodIn wsX2_stretch (va_wsS RX2 113 yX2_isReach wsX2_isReach) := goodIn_app (goodIn_of _ (by decide +kernel)) ggX2_stretch_X2_isReach
set_option maxRecDepth 20000 in
theorem ggX2_stretch_X1_isSafe : GoodIn wsX2_stretch wsX1_isSafe := goodIn_r _ [18, 19, 20, 21, 17, 22, 23, 24, 25, 26, 27, 28, 29, 30, 31, 32, 33, 34, 35, 36, 51, 52, 53] (by decide +kernel) (by decide +kernel)
set_option maxRecDepth 20000 in
theorem gX2_stretch_X1_isSafe : GoodIn wsX2_stretch (wsV RX2 105 RX1 yX1_isSafe wsX1_isSafe) := goodIn_app (goodIn_of _ (by decide +kernel)) ggX2_stretch_X1_isSafe
set_option maxRecDepth 20000 in
theorem ggX2_stretch_X2_countMoves : GoodIn wsX2_stretch wsX2_countMoves := goodIn_r _ [40, 5, 41, 42, 43, 44, 45, 46, 47, 48, 49, 50] (by decide +kernel) (by decide +kernel)
set_option maxRecDepth 20000 in
theorem gX2_stretch_X2_countMoves : GoodIn wsX2_stretch (wsV RX2 108 RX2 yX2_countMoves wsX2_countMoves) := goodIn_app (goodIn_of _ (by decide +kernel)) ggX2_stretch_X2_countMoves
theorem dX2_stretch_0 : decode cX2_stretch 0 = .ok (.iload_n 1, 1) := by decide +kernel
theorem dX2_stretch_1 : decode cX2_stretch 1 = .ok (.iconst 1, 1) := by decide +kernel
theorem dX2_stretch_2 : decode cX2_stretch 2 = .ok (.bipush 30, 2) := by decide +kernel
theorem dX2_stretch_4 : decode cX2_stretch 4 = .ok (.invokestatic 30, 3) := by decide +kernel
theorem dX2_stretch_7 : decode cX2_stretch 7 = .ok (.ifCond .ne 13, 3) := by decide +kernel
theorem dX2_stretch_10 : decode cX2_stretch 10 = .ok (.new 34, 3) := by decide +kernel
theorem dX2_stretch_13 : decode cX2_stretch 13 = .ok (.dup, 1) := by decide +kernel
theorem dX2_stretch_14 : decode cX2_stretch 14 = .ok (.ldc 111, 2) := by decide +kernel
theorem dX2_stretch_16 : decode cX2_stretch 16 = .ok (.invokespecial 38, 3) := by decide +kernel
theorem dX2_stretch_19 : decode cX2_stretch 19 = .ok (.athrow, 1) := by decide +kernel
theorem dX2_stretch_20 : decode cX2_stretch 20 = .ok (.iload_n 2, 1) := by decide +kernel
theorem dX2_stretch_21 : decode cX2_stretch 21 = .ok (.ifCond .eq 7, 3) := by decide +kernel
theorem dX2_stretch_24 : decode cX2_stretch 24 = .ok (.iconst 1, 1) := by decide +kernel
theorem dX2_stretch_25 : decode cX2_stretch 25 = .ok (.goto 4, 3) := by decide +kernel
theorem dX2_stretch_28 : decode cX2_stretch 28 = .ok (.iconst (-1), 1) := by decide +kernel
theorem dX2_stretch_29 : decode cX2_stretch 29 = .ok (.istore_n 3, 1) := by decide +kernel
theorem dX2_stretch_30 : decode cX2_stretch 30 = .ok (.iconst 0, 1) := by decide +kernel
theorem dX2_stretch_31 : decode cX2_stretch 31 = .ok (.istore 4, 2) := by decide +kernel
theorem dX2_stretch_33 : decode cX2_stretch 33 = .ok (.iload 4, 2) := by decide +kernel
theorem dX2_stretch_35 : decode cX2_stretch 35 = .ok (.iload_n 1, 1) := by decide +kernel
theorem dX2_stretch_36 : decode cX2_stretch 36 = .ok (.if_icmp .ge 55, 3) := by decide +kernel
theorem dX2_stretch_39 : decode cX2_stretch 39 = .ok (.aload_n 0, 1) := by decide +kernel
theorem dX2_stretch_40 : decode cX2_stretch 40 = .ok (.getfield 26, 3) := by decide +kernel
theorem dX2_stretch_43 : decode cX2_stretch 43 = .ok (.iload_n 3, 1) := by decide +kernel
theorem dX2_stretch_44 : decode cX2_stretch 44 = .ok (.iadd, 1) := by decide +kernel
theorem dX2_stretch_45 : decode cX2_stretch 45 = .ok (.invokestatic 113, 3) := by decide +kernel
theorem dX2_stretch_48 : decode cX2_stretch 48 = .ok (.ifCond .eq 43, 3) := by decide +kernel
theorem dX2_stretch_51 : decode cX2_stretch 51 = .ok (.aload_n 0, 1) := by decide +kernel
theorem dX2_stretch_52 : decode cX2_stretch 52 = .ok (.getfield 12, 3) := by decide +kernel
theorem dX2_stretch_55 : decode cX2_stretch 55 = .ok (.aload_n 0, 1) := by decide +kernel
theorem dX2_stretch_56 : decode cX2_stretch 56 = .ok (.getfield 48, 3) := by decide +kernel
theorem dX2_stretch_59 : decode cX2_stretch 59 = .ok (.aload_n 0, 1) := by decide +kernel
theorem dX2_stretch_60 : decode cX2_stretch 60 = .ok (.getfield 98, 3) := by decide +kernel
theorem dX2_stretch_63 : decode cX2_stretch 63 = .ok (.aload_n 0, 1) := by decide +kernel
theorem dX2_stretch_64 : decode cX2_stretch 64 = .ok (.getfield 26, 3) := by decide +kernel
theorem dX2_stretch_67 : decode cX2_stretch 67 = .ok (.iload_n 3, 1) := by decide +kernel
theorem dX2_stretch_68 : decode cX2_stretch 68 = .ok (.iadd, 1) := by decide +kernel
theorem dX2_stretch_69 : decode cX2_stretch 69 = .ok (.invokevirtual 105, 3) := by decide +kernel
theorem dX2_stretch_72 : decode cX2_stretch 72 = .ok (.ifCond .eq 19, 3) := by decide +kernel
theorem dX2_stretch_75 : decode cX2_stretch 75 = .ok (.aload_n 0, 1) := by decide +kernel
theorem dX2_stretch_76 : decode cX2_stretch 76 = .ok (.dup, 1) := by decide +kernel
theorem dX2_stretch_77 : decode cX2_stretch 77 = .ok (.getfield 26, 3) := by decide +kernel
theorem dX2_stretch_80 : decode cX2_stretch 80 = .ok (.iload_n 3, 1) := by decide +kernel
theorem dX2_stretch_81 : decode cX2_stretch 81 = .ok (.iadd, 1) := by decide +kernel
theorem dX2_stretch_82 : decode cX2_stretch 82 = .ok (.putfield 26, 3) := by decide +kernel
theorem dX2_stretch_85 : decode cX2_stretch 85 = .ok (.iinc 4 1, 3) := by decide +kernel
theorem dX2_stretch_88 : decode cX2_stretch 88 = .ok (.goto (-55), 3) := by decide +kernel
theorem dX2_stretch_91 : decode cX2_stretch 91 = .ok (.aload_n 0, 1) := by decide +kernel
theorem dX2_stretch_92 : decode cX2_stretch 92 = .ok (.iload 4, 2) := by decide +kernel
theorem dX2_stretch_94 : decode cX2_stretch 94 = .ok (.invokevirtual 108, 3) := by decide +kernel
theorem dX2_stretch_97 : decode cX2_stretch 97 = .ok (.iload 4, 2) := by decide +kernel
theorem dX2_stretch_99 : decode cX2_stretch 99 = .ok (.ireturn, 1) := by decide +kernel
theorem dX2_direction_0 : decode cX2_direction 0 = .ok (.aload_n 0, 1) := by decide +kernel
theorem dX2_direction_1 : decode cX2_direction 1 = .ok (.getfield 98, 3) := by decide +kernel
theorem dX2_direction_4 : decode cX2_direction 4 = .ok (.ireturn, 1) := by decide +kernel
theorem dX2_reach_0 : decode cX2_reach 0 = .ok (.aload_n 0, 1) := by decide +kernel
theorem dX2_reach_1 : decode cX2_reach 1 = .ok (.getfield 26, 3) := by decide +kernel
theorem dX2_reach_4 : decode cX2_reach 4 = .ok (.ireturn, 1) := by decide +kernel
theorem dX2_load_0 : decode cX2_load 0 = .ok (.aload_n 0, 1) := by decide +kernel
theorem dX2_load_1 : decode cX2_load 1 = .ok (.getfield 48, 3) := by decide +kernel
theorem dX2_load_4 : decode cX2_load 4 = .ok (.ireturn, 1) := by decide +kernel
theorem dX2_plates_0 : decode cX2_plates 0 = .ok (.aload_n 0, 1) := by decide +kernel
theorem dX2_plates_1 : decode cX2_plates 1 = .ok (.getfield 12, 3) := by decide +kernel
theorem dX2_plates_4 : decode cX2_plates 4 = .ok (.getfield 45, 3) := by decide +kernel
theorem dX2_plates_7 : decode cX2_plates 7 = .ok (.ireturn, 1) := by decide +kernel
set_option maxRecDepth 20000 in
theorem ggX2_outrigger_X2_requireSide : GoodIn wsX2_outrigger wsX2_requireSide := goodIn_ca (goodIn_r _ [5, 6, 7, 8, 9, 4, 10] (by decide +kernel) (by decide +kernel)) (goodIn_sub (fun _ h => List.mem_cons_of_mem _ (List.mem_append_right _ h)) (by decide +kernel))
set_option maxRecDepth 20000 in
theorem gX2_outrigger_X2_requireSide : GoodIn wsX2_outrigger (va_wsS RX2 55 yX2_requireSide wsX2_requireSide) := goodIn_app (goodIn_of _ (by decide +kernel)) ggX2_outrigger_X2_requireSide
set_option maxRecDepth 20000 in
theorem ggX2_outrigger_X1_drawn : GoodIn wsX2_outrigger wsX1_drawn := goodIn_r _ [15, 16, 26, 27, 28] (by decide +kernel) (by decide +kernel)
set_option maxRecDepth 20000 in
theorem gX2_outrigger_X1_drawn : GoodIn wsX2_outrigger (wsV RX2 68 RX1 yX1_drawn wsX1_drawn) := goodIn_app (goodIn_of _ (by decide +kernel)) ggX2_outrigger_X1_drawn
theorem dX2_outrigger_0 : decode cX2_outrigger 0 = .ok (.iload_n 1, 1) := by decide +kernel
theorem dX2_outrigger_1 : decode cX2_outrigger 1 = .ok (.invokestatic 55, 3) := by decide +kernel
theorem dX2_outrigger_4 : decode cX2_outrigger 4 = .ok (.aload_n 0, 1) := by decide +kernel
theorem dX2_outrigger_5 : decode cX2_outrigger 5 = .ok (.getfield 12, 3) := by decide +kernel
theorem dX2_outrigger_8 : decode cX2_outrigger 8 = .ok (.iload_n 1, 1) := by decide +kernel
theorem dX2_outrigger_9 : decode cX2_outrigger 9 = .ok (.invokevirtual 68, 3) := by decide +kernel
theorem dX2_outrigger_12 : decode cX2_outrigger 12 = .ok (.ireturn, 1) := by decide +kernel
set_option maxRecDepth 20000 in
theorem ggX2_limitAt_X2_requireReach : GoodIn wsX2_limitAt wsX2_requireReach := goodIn_ca (goodIn_r _ [5, 6, 7, 8, 9, 4, 10, 11, 12, 13] (by decide +kernel) (by decide +kernel)) (goodIn_sub (fun _ h => List.mem_cons_of_mem _ (List.mem_append_right _ h)) (by decide +kernel))
set_option maxRecDepth 20000 in
theorem gX2_limitAt_X2_requireReach : GoodIn wsX2_limitAt (va_wsS RX2 72 yX2_requireReach wsX2_requireReach) := goodIn_app (goodIn_of _ (by decide +kernel)) ggX2_limitAt_X2_requireReach
set_option maxRecDepth 20000 in
theorem ggX2_limitAt_X1_allowed : GoodIn wsX2_limitAt wsX1_allowed := goodIn_r _ [18, 19, 29, 30, 31] (by decide +kernel) (by decide +kernel)
set_option maxRecDepth 20000 in
theorem gX2_limitAt_X1_allowed : GoodIn wsX2_limitAt (wsV RX2 80 RX1 yX1_allowed wsX1_allowed) := goodIn_app (goodIn_of _ (by decide +kernel)) ggX2_limitAt_X1_allowed
theorem dX2_limitAt_0 : decode cX2_limitAt 0 = .ok (.iload_n 1, 1) := by decide +kernel
theorem dX2_limitAt_1 : decode cX2_limitAt 1 = .ok (.invokestatic 72, 3) := by decide +kernel
theorem dX2_limitAt_4 : decode cX2_limitAt 4 = .ok (.aload_n 0, 1) := by decide +kernel
theorem dX2_limitAt_5 : decode cX2_limitAt 5 = .ok (.getfield 12, 3) := by decide +kernel
theorem dX2_limitAt_8 : decode cX2_limitAt 8 = .ok (.iload_n 1, 1) := by decide +kernel
theorem dX2_limitAt_9 : decode cX2_limitAt 9 = .ok (.invokevirtual 80, 3) := by decide +kernel
theorem dX2_limitAt_12 : decode cX2_limitAt 12 = .ok (.ireturn, 1) := by decide +kernel
set_option maxRecDepth 20000 in
theorem ggX2_strainOn_X2_requireSide : GoodIn wsX2_strainOn wsX2_requireSide := goodIn_ca (goodIn_r _ [8, 9, 10, 11, 12, 7, 13] (by decide +kernel) (by decide +kernel)) (goodIn_sub (fun _ h => List.mem_cons_of_mem _ (List.mem_append_right _ h)) (by decide +kernel))
set_option maxRecDepth 20000 in
theorem gX2_strainOn_X2_requireSide : GoodIn wsX2_strainOn (va_wsS RX2 55 yX2_requireSide wsX2_requireSide) := goodIn_app (goodIn_of _ (by decide +kernel)) ggX2_strainOn_X2_requireSide
set_option maxRecDepth 20000 in
theorem ggX2_strainOn_X1_strain : GoodIn wsX2_strainOn wsX1_strain := goodIn_r _ [18, 19, 20, 21, 22, 17, 23, 24, 25, 26, 27, 37, 38, 39] (by decide +kernel) (by decide +kernel)
set_option maxRecDepth 20000 in
theorem gX2_strainOn_X1_strain : GoodIn wsX2_strainOn (wsV RX2 117 RX1 yX1_strain wsX1_strain) := goodIn_app (goodIn_of _ (by decide +kernel)) ggX2_strainOn_X1_strain
theorem dX2_strainOn_0 : decode cX2_strainOn 0 = .ok (.iload_n 1, 1) := by decide +kernel
theorem dX2_strainOn_1 : decode cX2_strainOn 1 = .ok (.invokestatic 55, 3) := by decide +kernel
theorem dX2_strainOn_4 : decode cX2_strainOn 4 = .ok (.aload_n 0, 1) := by decide +kernel
theorem dX2_strainOn_5 : decode cX2_strainOn 5 = .ok (.getfield 12, 3) := by decide +kernel
theorem dX2_strainOn_8 : decode cX2_strainOn 8 = .ok (.iload_n 1, 1) := by decide +kernel
theorem dX2_strainOn_9 : decode cX2_strainOn 9 = .ok (.aload_n 0, 1) := by decide +kernel
theorem dX2_strainOn_10 : decode cX2_strainOn 10 = .ok (.getfield 48, 3) := by decide +kernel
theorem dX2_strainOn_13 : decode cX2_strainOn 13 = .ok (.aload_n 0, 1) := by decide +kernel
theorem dX2_strainOn_14 : decode cX2_strainOn 14 = .ok (.getfield 98, 3) := by decide +kernel
theorem dX2_strainOn_17 : decode cX2_strainOn 17 = .ok (.aload_n 0, 1) := by decide +kernel
theorem dX2_strainOn_18 : decode cX2_strainOn 18 = .ok (.getfield 26, 3) := by decide +kernel
theorem dX2_strainOn_21 : decode cX2_strainOn 21 = .ok (.invokevirtual 117, 3) := by decide +kernel
theorem dX2_strainOn_24 : decode cX2_strainOn 24 = .ok (.ireturn, 1) := by decide +kernel
set_option maxRecDepth 20000 in
theorem ggX2_weakestSide_X1_strain : GoodIn wsX2_weakestSide wsX1_strain := goodIn_r _ [9, 10, 11, 12, 13, 8, 14, 15, 16, 17, 18, 28, 29, 30] (by decide +kernel) (by decide +kernel)
set_option maxRecDepth 20000 in
theorem gX2_weakestSide_X1_strain : GoodIn wsX2_weakestSide (wsV RX2 117 RX1 yX1_strain wsX1_strain) := goodIn_app (goodIn_of _ (by decide +kernel)) ggX2_weakestSide_X1_strain
theorem dX2_weakestSide_0 : decode cX2_weakestSide 0 = .ok (.iconst 0, 1) := by decide +kernel
theorem dX2_weakestSide_1 : decode cX2_weakestSide 1 = .ok (.istore_n 1, 1) := by decide +kernel
theorem dX2_weakestSide_2 : decode cX2_weakestSide 2 = .ok (.aload_n 0, 1) := by decide +kernel
theorem dX2_weakestSide_3 : decode cX2_weakestSide 3 = .ok (.getfield 12, 3) := by decide +kernel
theorem dX2_weakestSide_6 : decode cX2_weakestSide 6 = .ok (.iconst 0, 1) := by decide +kernel
theorem dX2_weakestSide_7 : decode cX2_weakestSide 7 = .ok (.aload_n 0, 1) := by decide +kernel
theorem dX2_weakestSide_8 : decode cX2_weakestSide 8 = .ok (.getfield 48, 3) := by decide +kernel
theorem dX2_weakestSide_11 : decode cX2_weakestSide 11 = .ok (.aload_n 0, 1) := by decide +kernel
theorem dX2_weakestSide_12 : decode cX2_weakestSide 12 = .ok (.getfield 98, 3) := by decide +kernel
theorem dX2_weakestSide_15 : decode cX2_weakestSide 15 = .ok (.aload_n 0, 1) := by decide +kernel
theorem dX2_weakestSide_16 : decode cX2_weakestSide 16 = .ok (.getfield 26, 3) := by decide +kernel
theorem dX2_weakestSide_19 : decode cX2_weakestSide 19 = .ok (.invokevirtual 117, 3) := by decide +kernel
theorem dX2_weakestSide_22 : decode cX2_weakestSide 22 = .ok (.istore_n 2, 1) := by decide +kernel
theorem dX2_weakestSide_23 : decode cX2_weakestSide 23 = .ok (.iconst 1, 1) := by decide +kernel
theorem dX2_weakestSide_24 : decode cX2_weakestSide 24 = .ok (.istore_n 3, 1) := by decide +kernel
theorem dX2_weakestSide_25 : decode cX2_weakestSide 25 = .ok (.iload_n 3, 1) := by decide +kernel
theorem dX2_weakestSide_26 : decode cX2_weakestSide 26 = .ok (.iconst 4, 1) := by decide +kernel
theorem dX2_weakestSide_27 : decode cX2_weakestSide 27 = .ok (.if_icmp .ge 42, 3) := by decide +kernel
theorem dX2_weakestSide_30 : decode cX2_weakestSide 30 = .ok (.aload_n 0, 1) := by decide +kernel
theorem dX2_weakestSide_31 : decode cX2_weakestSide 31 = .ok (.getfield 12, 3) := by decide +kernel
theorem dX2_weakestSide_34 : decode cX2_weakestSide 34 = .ok (.iload_n 3, 1) := by decide +kernel
theorem dX2_weakestSide_35 : decode cX2_weakestSide 35 = .ok (.aload_n 0, 1) := by decide +kernel
theorem dX2_weakestSide_36 : decode cX2_weakestSide 36 = .ok (.getfield 48, 3) := by decide +kernel
theorem dX2_weakestSide_39 : decode cX2_weakestSide 39 = .ok (.aload_n 0, 1) := by decide +kernel
theorem dX2_weakestSide_40 : decode cX2_weakestSide 40 = .ok (.getfield 98, 3) := by decide +kernel
theorem dX2_weakestSide_43 : decode cX2_weakestSide 43 = .ok (.aload_n 0, 1) := by decide +kernel
theorem dX2_weakestSide_44 : decode cX2_weakestSide 44 = .ok (.getfield 26, 3) := by decide +kernel
theorem dX2_weakestSide_47 : decode cX2_weakestSide 47 = .ok (.invokevirtual 117, 3) := by decide +kernel
theorem dX2_weakestSide_50 : decode cX2_weakestSide 50 = .ok (.istore 4, 2) := by decide +kernel
theorem dX2_weakestSide_52 : decode cX2_weakestSide 52 = .ok (.iload 4, 2) := by decide +kernel
theorem dX2_weakestSide_54 : decode cX2_weakestSide 54 = .ok (.iload_n 2, 1) := by decide +kernel
theorem dX2_weakestSide_55 : decode cX2_weakestSide 55 = .ok (.if_icmp .le 8, 3) := by decide +kernel
theorem dX2_weakestSide_58 : decode cX2_weakestSide 58 = .ok (.iload_n 3, 1) := by decide +kernel
theorem dX2_weakestSide_59 : decode cX2_weakestSide 59 = .ok (.istore_n 1, 1) := by decide +kernel
theorem dX2_weakestSide_60 : decode cX2_weakestSide 60 = .ok (.iload 4, 2) := by decide +kernel
theorem dX2_weakestSide_62 : decode cX2_weakestSide 62 = .ok (.istore_n 2, 1) := by decide +kernel
theorem dX2_weakestSide_63 : decode cX2_weakestSide 63 = .ok (.iinc 3 1, 3) := by decide +kernel
theorem dX2_weakestSide_66 : decode cX2_weakestSide 66 = .ok (.goto (-41), 3) := by decide +kernel
theorem dX2_weakestSide_69 : decode cX2_weakestSide 69 = .ok (.iload_n 1, 1) := by decide +kernel
theorem dX2_weakestSide_70 : decode cX2_weakestSide 70 = .ok (.ireturn, 1) := by decide +kernel
theorem dX2_lifts_0 : decode cX2_lifts 0 = .ok (.aload_n 0, 1) := by decide +kernel
theorem dX2_lifts_1 : decode cX2_lifts 1 = .ok (.getfield 85, 3) := by decide +kernel
theorem dX2_lifts_4 : decode cX2_lifts 4 = .ok (.ireturn, 1) := by decide +kernel
theorem dX2_tonsLifted_0 : decode cX2_tonsLifted 0 = .ok (.aload_n 0, 1) := by decide +kernel
theorem dX2_tonsLifted_1 : decode cX2_tonsLifted 1 = .ok (.getfield 88, 3) := by decide +kernel
theorem dX2_tonsLifted_4 : decode cX2_tonsLifted 4 = .ok (.ireturn, 1) := by decide +kernel
theorem dX2_movesWithLoad_0 : decode cX2_movesWithLoad 0 = .ok (.aload_n 0, 1) := by decide +kernel
theorem dX2_movesWithLoad_1 : decode cX2_movesWithLoad 1 = .ok (.getfield 121, 3) := by decide +kernel
theorem dX2_movesWithLoad_4 : decode cX2_movesWithLoad 4 = .ok (.ireturn, 1) := by decide +kernel
set_option maxRecDepth 20000 in
theorem ggX2_isSafeWith_X2_requireDirection : GoodIn wsX2_isSafeWith wsX2_requireDirection := goodIn_ca (goodIn_r _ [5, 6, 7, 8, 9, 4, 10] (by decide +kernel) (by decide +kernel)) (goodIn_sub (fun _ h => List.mem_cons_of_mem _ (List.mem_append_left _ (List.mem_append_right _ h))) (by decide +kernel))
set_option maxRecDepth 20000 in
theorem gX2_isSafeWith_X2_requireDirection : GoodIn wsX2_isSafeWith (va_wsS RX2 124 yX2_requireDirection wsX2_requireDirection) := goodIn_app (goodIn_of _ (by decide +kernel)) ggX2_isSafeWith_X2_requireDirection
set_option maxRecDepth 20000 in
theorem ggX2_isSafeWith_X2_requireLoad : GoodIn wsX2_isSafeWith wsX2_requireLoad := goodIn_ca (goodIn_r _ [13, 14, 15, 8, 9, 4, 10] (by decide +kernel) (by decide +kernel)) (goodIn_sub (fun _ h => List.mem_cons_of_mem _ (List.mem_append_right _ h)) (by decide +kernel))
set_option maxRecDepth 20000 in
theorem gX2_isSafeWith_X2_requireLoad : GoodIn wsX2_isSafeWith (va_wsS RX2 127 yX2_requireLoad wsX2_requireLoad) := goodIn_app (goodIn_of _ (by decide +kernel)) ggX2_isSafeWith_X2_requireLoad
set_option maxRecDepth 20000 in
theorem ggX2_isSafeWith_X2_requireReach : GoodIn wsX2_isSafeWith wsX2_requireReach := goodIn_ca (goodIn_r _ [18, 14, 15, 19, 20, 4, 21, 8, 9, 10] (by decide +kernel) (by decide +kernel)) (goodIn_sub (fun _ h => List.mem_cons_of_mem _ (List.mem_append_right _ h)) (by decide +kernel))
set_option maxRecDepth 20000 in
theorem gX2_isSafeWith_X2_requireReach : GoodIn wsX2_isSafeWith (va_wsS RX2 72 yX2_requireReach wsX2_requireReach) := goodIn_app (goodIn_of _ (by decide +kernel)) ggX2_isSafeWith_X2_requireReach
set_option maxRecDepth 20000 in
theorem ggX2_isSafeWith_X1_isSafe : GoodIn wsX2_isSafeWith wsX1_isSafe := goodIn_r _ [26, 27, 28, 29, 25, 30, 31, 32, 33, 34, 35, 36, 37, 38, 39, 40, 41, 42, 43, 44, 54, 55, 56] (by decide +kernel) (by decide +kernel)
set_option maxRecDepth 20000 in
theorem gX2_isSafeWith_X1_isSafe : GoodIn wsX2_isSafeWith (wsV RX2 105 RX1 yX1_isSafe wsX1_isSafe) := goodIn_app (goodIn_of _ (by decide +kernel)) ggX2_isSafeWith_X1_isSafe
theorem dX2_isSafeWith_0 : decode cX2_isSafeWith 0 = .ok (.iload_n 2, 1) := by decide +kernel
theorem dX2_isSafeWith_1 : decode cX2_isSafeWith 1 = .ok (.invokestatic 124, 3) := by decide +kernel
theorem dX2_isSafeWith_4 : decode cX2_isSafeWith 4 = .ok (.iload_n 1, 1) := by decide +kernel
theorem dX2_isSafeWith_5 : decode cX2_isSafeWith 5 = .ok (.invokestatic 127, 3) := by decide +kernel
theorem dX2_isSafeWith_8 : decode cX2_isSafeWith 8 = .ok (.iload_n 3, 1) := by decide +kernel
theorem dX2_isSafeWith_9 : decode cX2_isSafeWith 9 = .ok (.invokestatic 72, 3) := by decide +kernel
theorem dX2_isSafeWith_12 : decode cX2_isSafeWith 12 = .ok (.aload_n 0, 1) := by decide +kernel
theorem dX2_isSafeWith_13 : decode cX2_isSafeWith 13 = .ok (.getfield 12, 3) := by decide +kernel
theorem dX2_isSafeWith_16 : decode cX2_isSafeWith 16 = .ok (.iload_n 1, 1) := by decide +kernel
theorem dX2_isSafeWith_17 : decode cX2_isSafeWith 17 = .ok (.iload_n 2, 1) := by decide +kernel
theorem dX2_isSafeWith_18 : decode cX2_isSafeWith 18 = .ok (.iload_n 3, 1) := by decide +kernel
theorem dX2_isSafeWith_19 : decode cX2_isSafeWith 19 = .ok (.invokevirtual 105, 3) := by decide +kernel
theorem dX2_isSafeWith_22 : decode cX2_isSafeWith 22 = .ok (.ireturn, 1) := by decide +kernel
set_option maxRecDepth 20000 in
theorem ggX2_greatestLoad_X1_isSafe : GoodIn wsX2_greatestLoad wsX1_isSafe := goodIn_r _ [8, 9, 10, 11, 7, 12, 13, 14, 15, 16, 17, 18, 19, 20, 21, 22, 23, 24, 25, 26, 36, 37, 38] (by decide +kernel) (by decide +kernel)
set_option maxRecDepth 20000 in
theorem gX2_greatestLoad_X1_isSafe : GoodIn wsX2_greatestLoad (wsV RX2 105 RX1 yX1_isSafe wsX1_isSafe) := goodIn_app (goodIn_of _ (by decide +kernel)) ggX2_greatestLoad_X1_isSafe
theorem dX2_greatestLoad_0 : decode cX2_greatestLoad 0 = .ok (.bipush 60, 2) := by decide +kernel
theorem dX2_greatestLoad_2 : decode cX2_greatestLoad 2 = .ok (.istore_n 1, 1) := by decide +kernel
theorem dX2_greatestLoad_3 : decode cX2_greatestLoad 3 = .ok (.iload_n 1, 1) := by decide +kernel
theorem dX2_greatestLoad_4 : decode cX2_greatestLoad 4 = .ok (.ifCond .le 30, 3) := by decide +kernel
theorem dX2_greatestLoad_7 : decode cX2_greatestLoad 7 = .ok (.aload_n 0, 1) := by decide +kernel
theorem dX2_greatestLoad_8 : decode cX2_greatestLoad 8 = .ok (.getfield 12, 3) := by decide +kernel
theorem dX2_greatestLoad_11 : decode cX2_greatestLoad 11 = .ok (.iload_n 1, 1) := by decide +kernel
theorem dX2_greatestLoad_12 : decode cX2_greatestLoad 12 = .ok (.aload_n 0, 1) := by decide +kernel
theorem dX2_greatestLoad_13 : decode cX2_greatestLoad 13 = .ok (.getfield 98, 3) := by decide +kernel
theorem dX2_greatestLoad_16 : decode cX2_greatestLoad 16 = .ok (.aload_n 0, 1) := by decide +kernel
theorem dX2_greatestLoad_17 : decode cX2_greatestLoad 17 = .ok (.getfield 26, 3) := by decide +kernel
theorem dX2_greatestLoad_20 : decode cX2_greatestLoad 20 = .ok (.invokevirtual 105, 3) := by decide +kernel
theorem dX2_greatestLoad_23 : decode cX2_greatestLoad 23 = .ok (.ifCond .eq 5, 3) := by decide +kernel
theorem dX2_greatestLoad_26 : decode cX2_greatestLoad 26 = .ok (.iload_n 1, 1) := by decide +kernel
theorem dX2_greatestLoad_27 : decode cX2_greatestLoad 27 = .ok (.ireturn, 1) := by decide +kernel
theorem dX2_greatestLoad_28 : decode cX2_greatestLoad 28 = .ok (.iinc 1 (-1), 3) := by decide +kernel
theorem dX2_greatestLoad_31 : decode cX2_greatestLoad 31 = .ok (.goto (-28), 3) := by decide +kernel
theorem dX2_greatestLoad_34 : decode cX2_greatestLoad 34 = .ok (.iconst 0, 1) := by decide +kernel
theorem dX2_greatestLoad_35 : decode cX2_greatestLoad 35 = .ok (.ireturn, 1) := by decide +kernel
set_option maxRecDepth 20000 in
theorem ggX2_farthestReach_X2_requireDirection : GoodIn wsX2_farthestReach wsX2_requireDirection := goodIn_ca (goodIn_r _ [5, 6, 7, 8, 9, 4, 10] (by decide +kernel) (by decide +kernel)) (goodIn_sub (fun _ h => List.mem_cons_of_mem _ (List.mem_append_left _ (List.mem_append_right _ h))) (by decide +kernel))
set_option maxRecDepth 20000 in
theorem gX2_farthestReach_X2_requireDirection : GoodIn wsX2_farthestReach (va_wsS RX2 124 yX2_requireDirection wsX2_requireDirection) := goodIn_app (goodIn_of _ (by decide +kernel)) ggX2_farthestReach_X2_requireDirection
set_option maxRecDepth 20000 in
theorem ggX2_farthestReach_X2_requireLoad : GoodIn wsX2_farthestReach wsX2_requireLoad := goodIn_ca (goodIn_r _ [13, 14, 15, 8, 9, 4, 10] (by decide +kernel) (by decide +kernel)) (goodIn_sub (fun _ h => List.mem_cons_of_mem _ (List.mem_append_right _ h)) (by decide +kernel))
set_option maxRecDepth 20000 in
theorem gX2_farthestReach_X2_requireLoad : GoodIn wsX2_farthestReach (va_wsS RX2 127 yX2_requireLoad wsX2_requireLoad) := goodIn_app (goodIn_of _ (by decide +kernel)) ggX2_farthestReach_X2_requireLoad
set_option maxRecDepth 20000 in
theorem ggX2_farthestReach_X1_isSafe : GoodIn wsX2_farthestReach wsX1_isSafe := goodIn_r _ [20, 21, 22, 23, 19, 24, 25, 26, 27, 28, 29, 30, 31, 32, 33, 34, 35, 36, 37, 38, 48, 49, 50] (by decide +kernel) (by decide +kernel)
set_option maxRecDepth 20000 in
theorem gX2_farthestReach_X1_isSafe : GoodIn wsX2_farthestReach (wsV RX2 105 RX1 yX1_isSafe wsX1_isSafe) := goodIn_app (goodIn_of _ (by decide +kernel)) ggX2_farthestReach_X1_isSafe
theorem dX2_farthestReach_0 : decode cX2_farthestReach 0 = .ok (.iload_n 2, 1) := by decide +kernel
theorem dX2_farthestReach_1 : decode cX2_farthestReach 1 = .ok (.invokestatic 124, 3) := by decide +kernel
theorem dX2_farthestReach_4 : decode cX2_farthestReach 4 = .ok (.iload_n 1, 1) := by decide +kernel
theorem dX2_farthestReach_5 : decode cX2_farthestReach 5 = .ok (.invokestatic 127, 3) := by decide +kernel
theorem dX2_farthestReach_8 : decode cX2_farthestReach 8 = .ok (.iconst (-1), 1) := by decide +kernel
theorem dX2_farthestReach_9 : decode cX2_farthestReach 9 = .ok (.istore_n 3, 1) := by decide +kernel
theorem dX2_farthestReach_10 : decode cX2_farthestReach 10 = .ok (.iconst 3, 1) := by decide +kernel
theorem dX2_farthestReach_11 : decode cX2_farthestReach 11 = .ok (.istore 4, 2) := by decide +kernel
theorem dX2_farthestReach_13 : decode cX2_farthestReach 13 = .ok (.iload 4, 2) := by decide +kernel
theorem dX2_farthestReach_15 : decode cX2_farthestReach 15 = .ok (.bipush 30, 2) := by decide +kernel
theorem dX2_farthestReach_17 : decode cX2_farthestReach 17 = .ok (.if_icmp .gt 26, 3) := by decide +kernel
theorem dX2_farthestReach_20 : decode cX2_farthestReach 20 = .ok (.aload_n 0, 1) := by decide +kernel
theorem dX2_farthestReach_21 : decode cX2_farthestReach 21 = .ok (.getfield 12, 3) := by decide +kernel
theorem dX2_farthestReach_24 : decode cX2_farthestReach 24 = .ok (.iload_n 1, 1) := by decide +kernel
theorem dX2_farthestReach_25 : decode cX2_farthestReach 25 = .ok (.iload_n 2, 1) := by decide +kernel
theorem dX2_farthestReach_26 : decode cX2_farthestReach 26 = .ok (.iload 4, 2) := by decide +kernel
theorem dX2_farthestReach_28 : decode cX2_farthestReach 28 = .ok (.invokevirtual 105, 3) := by decide +kernel
theorem dX2_farthestReach_31 : decode cX2_farthestReach 31 = .ok (.ifCond .eq 12, 3) := by decide +kernel
theorem dX2_farthestReach_34 : decode cX2_farthestReach 34 = .ok (.iload 4, 2) := by decide +kernel
theorem dX2_farthestReach_36 : decode cX2_farthestReach 36 = .ok (.istore_n 3, 1) := by decide +kernel
theorem dX2_farthestReach_37 : decode cX2_farthestReach 37 = .ok (.iinc 4 1, 3) := by decide +kernel
theorem dX2_farthestReach_40 : decode cX2_farthestReach 40 = .ok (.goto (-27), 3) := by decide +kernel
theorem dX2_farthestReach_43 : decode cX2_farthestReach 43 = .ok (.iload_n 3, 1) := by decide +kernel
theorem dX2_farthestReach_44 : decode cX2_farthestReach 44 = .ok (.ireturn, 1) := by decide +kernel
set_option maxRecDepth 20000 in
theorem ggX2_safeDirections_X2_requireLoad : GoodIn wsX2_safeDirections wsX2_requireLoad := goodIn_ca (goodIn_r _ [5, 6, 7, 8, 9, 4, 10] (by decide +kernel) (by decide +kernel)) (goodIn_sub (fun _ h => List.mem_cons_of_mem _ (List.mem_append_right _ h)) (by decide +kernel))
set_option maxRecDepth 20000 in
theorem gX2_safeDirections_X2_requireLoad : GoodIn wsX2_safeDirections (va_wsS RX2 127 yX2_requireLoad wsX2_requireLoad) := goodIn_app (goodIn_of _ (by decide +kernel)) ggX2_safeDirections_X2_requireLoad
set_option maxRecDepth 20000 in
theorem ggX2_safeDirections_X2_requireReach : GoodIn wsX2_safeDirections wsX2_requireReach := goodIn_ca (goodIn_r _ [13, 6, 7, 14, 15, 4, 16, 8, 9, 10] (by decide +kernel) (by decide +kernel)) (goodIn_sub (fun _ h => List.mem_cons_of_mem _ (List.mem_append_right _ h)) (by decide +kernel))
set_option maxRecDepth 20000 in
theorem gX2_safeDirections_X2_requireReach : GoodIn wsX2_safeDirections (va_wsS RX2 72 yX2_requireReach wsX2_requireReach) := goodIn_app (goodIn_of _ (by decide +kernel)) ggX2_safeDirections_X2_requireReach
set_option maxRecDepth 20000 in
theorem ggX2_safeDirections_X1_isSafe : GoodIn wsX2_safeDirections wsX1_isSafe := goodIn_r _ [21, 22, 23, 24, 20, 25, 26, 27, 28, 29, 30, 31, 32, 33, 34, 35, 36, 37, 38, 39, 49, 50, 51] (by decide +kernel) (by decide +kernel)
set_option maxRecDepth 20000 in
theorem gX2_safeDirections_X1_isSafe : GoodIn wsX2_safeDirections (wsV RX2 105 RX1 yX1_isSafe wsX1_isSafe) := goodIn_app (goodIn_of _ (by decide +kernel)) ggX2_safeDirections_X1_isSafe
theorem dX2_safeDirections_0 : decode cX2_safeDirections 0 = .ok (.iload_n 1, 1) := by decide +kernel
theorem dX2_safeDirections_1 : decode cX2_safeDirections 1 = .ok (.invokestatic 127, 3) := by decide +kernel
theorem dX2_safeDirections_4 : decode cX2_safeDirections 4 = .ok (.iload_n 2, 1) := by decide +kernel
theorem dX2_safeDirections_5 : decode cX2_safeDirections 5 = .ok (.invokestatic 72, 3) := by decide +kernel
theorem dX2_safeDirections_8 : decode cX2_safeDirections 8 = .ok (.iconst 0, 1) := by decide +kernel
theorem dX2_safeDirections_9 : decode cX2_safeDirections 9 = .ok (.istore_n 3, 1) := by decide +kernel
theorem dX2_safeDirections_10 : decode cX2_safeDirections 10 = .ok (.iconst 0, 1) := by decide +kernel
theorem dX2_safeDirections_11 : decode cX2_safeDirections 11 = .ok (.istore 4, 2) := by decide +kernel
theorem dX2_safeDirections_13 : decode cX2_safeDirections 13 = .ok (.iload 4, 2) := by decide +kernel
theorem dX2_safeDirections_15 : decode cX2_safeDirections 15 = .ok (.bipush 8, 2) := by decide +kernel
theorem dX2_safeDirections_17 : decode cX2_safeDirections 17 = .ok (.if_icmp .ge 26, 3) := by decide +kernel
theorem dX2_safeDirections_20 : decode cX2_safeDirections 20 = .ok (.aload_n 0, 1) := by decide +kernel
theorem dX2_safeDirections_21 : decode cX2_safeDirections 21 = .ok (.getfield 12, 3) := by decide +kernel
theorem dX2_safeDirections_24 : decode cX2_safeDirections 24 = .ok (.iload_n 1, 1) := by decide +kernel
theorem dX2_safeDirections_25 : decode cX2_safeDirections 25 = .ok (.iload 4, 2) := by decide +kernel
theorem dX2_safeDirections_27 : decode cX2_safeDirections 27 = .ok (.iload_n 2, 1) := by decide +kernel
theorem dX2_safeDirections_28 : decode cX2_safeDirections 28 = .ok (.invokevirtual 105, 3) := by decide +kernel
theorem dX2_safeDirections_31 : decode cX2_safeDirections 31 = .ok (.ifCond .eq 6, 3) := by decide +kernel
theorem dX2_safeDirections_34 : decode cX2_safeDirections 34 = .ok (.iinc 3 1, 3) := by decide +kernel
theorem dX2_safeDirections_37 : decode cX2_safeDirections 37 = .ok (.iinc 4 1, 3) := by decide +kernel
theorem dX2_safeDirections_40 : decode cX2_safeDirections 40 = .ok (.goto (-27), 3) := by decide +kernel
theorem dX2_safeDirections_43 : decode cX2_safeDirections 43 = .ok (.iload_n 3, 1) := by decide +kernel
theorem dX2_safeDirections_44 : decode cX2_safeDirections 44 = .ok (.ireturn, 1) := by decide +kernel
set_option maxRecDepth 20000 in
theorem ggX2_platesNeeded_X2_requireDirection : GoodIn wsX2_platesNeeded wsX2_requireDirection := goodIn_ca (goodIn_r _ [7, 8, 9, 10, 11, 6, 12] (by decide +kernel) (by decide +kernel)) (goodIn_sub (fun _ h => List.mem_cons_of_mem _ (List.mem_append_left _ (List.mem_append_right _ h))) (by decide +kernel))
set_option maxRecDepth 20000 in
theorem gX2_platesNeeded_X2_requireDirection : GoodIn wsX2_platesNeeded (va_wsS RX2 124 yX2_requireDirection wsX2_requireDirection) := goodIn_app (goodIn_of _ (by decide +kernel)) ggX2_platesNeeded_X2_requireDirection
set_option maxRecDepth 20000 in
theorem ggX2_platesNeeded_X2_requireLoad : GoodIn wsX2_platesNeeded wsX2_requireLoad := goodIn_ca (goodIn_r _ [15, 16, 17, 10, 11, 6, 12] (by decide +kernel) (by decide +kernel)) (goodIn_sub (fun _ h => List.mem_cons_of_mem _ (List.mem_append_right _ h)) (by decide +kernel))
set_option maxRecDepth 20000 in
theorem gX2_platesNeeded_X2_requireLoad : GoodIn wsX2_platesNeeded (va_wsS RX2 127 yX2_requireLoad wsX2_requireLoad) := goodIn_app (goodIn_of _ (by decide +kernel)) ggX2_platesNeeded_X2_requireLoad
set_option maxRecDepth 20000 in
theorem ggX2_platesNeeded_X2_requireReach : GoodIn wsX2_platesNeeded wsX2_requireReach := goodIn_ca (goodIn_r _ [20, 16, 17, 21, 22, 6, 23, 10, 11, 12] (by decide +kernel) (by decide +kernel)) (goodIn_sub (fun _ h => List.mem_cons_of_mem _ (List.mem_append_right _ h)) (by decide +kernel))
set_option maxRecDepth 20000 in
theorem gX2_platesNeeded_X2_requireReach : GoodIn wsX2_platesNeeded (va_wsS RX2 72 yX2_requireReach wsX2_requireReach) := goodIn_app (goodIn_of _ (by decide +kernel)) ggX2_platesNeeded_X2_requireReach
set_option maxRecDepth 20000 in
theorem ggX2_platesNeeded_X1_becomeLike : GoodIn wsX2_platesNeeded wsX1_becomeLike := goodIn_r _ [28, 29, 30, 31, 32, 27, 33, 34, 35, 36, 37, 38, 39, 40, 41, 42, 43, 44, 45, 46, 47, 68, 69, 70] (by decide +kernel) (by decide +kernel)
set_option maxRecDepth 20000 in
theorem gX2_platesNeeded_X1_becomeLike : GoodIn wsX2_platesNeeded (wsV RX2 41 RX1 yX1_becomeLike wsX1_becomeLike) := goodIn_app (goodIn_of _ (by decide +kernel)) ggX2_platesNeeded_X1_becomeLike
set_option maxRecDepth 20000 in
theorem ggX2_platesNeeded_X1_isSafe : GoodIn wsX2_platesNeeded wsX1_isSafe := goodIn_r _ [51, 39, 40, 41, 27, 42, 43, 52, 53, 54, 55, 29, 30, 31, 32, 33, 34, 56, 57, 58, 68, 69, 70] (by decide +kernel) (by decide +kernel)
set_option maxRecDepth 20000 in
theorem gX2_platesNeeded_X1_isSafe : GoodIn wsX2_platesNeeded (wsV RX2 105 RX1 yX1_isSafe wsX1_isSafe) := goodIn_app (goodIn_of _ (by decide +kernel)) ggX2_platesNeeded_X1_isSafe
theorem dX2_platesNeeded_0 : decode cX2_platesNeeded 0 = .ok (.iload_n 2, 1) := by decide +kernel
theorem dX2_platesNeeded_1 : decode cX2_platesNeeded 1 = .ok (.invokestatic 124, 3) := by decide +kernel
theorem dX2_platesNeeded_4 : decode cX2_platesNeeded 4 = .ok (.iload_n 1, 1) := by decide +kernel
theorem dX2_platesNeeded_5 : decode cX2_platesNeeded 5 = .ok (.invokestatic 127, 3) := by decide +kernel
theorem dX2_platesNeeded_8 : decode cX2_platesNeeded 8 = .ok (.iload_n 3, 1) := by decide +kernel
theorem dX2_platesNeeded_9 : decode cX2_platesNeeded 9 = .ok (.invokestatic 72, 3) := by decide +kernel
theorem dX2_platesNeeded_12 : decode cX2_platesNeeded 12 = .ok (.aload_n 0, 1) := by decide +kernel
theorem dX2_platesNeeded_13 : decode cX2_platesNeeded 13 = .ok (.getfield 16, 3) := by decide +kernel
theorem dX2_platesNeeded_16 : decode cX2_platesNeeded 16 = .ok (.aload_n 0, 1) := by decide +kernel
theorem dX2_platesNeeded_17 : decode cX2_platesNeeded 17 = .ok (.getfield 12, 3) := by decide +kernel
theorem dX2_platesNeeded_20 : decode cX2_platesNeeded 20 = .ok (.invokevirtual 41, 3) := by decide +kernel
theorem dX2_platesNeeded_23 : decode cX2_platesNeeded 23 = .ok (.iconst 0, 1) := by decide +kernel
theorem dX2_platesNeeded_24 : decode cX2_platesNeeded 24 = .ok (.istore 4, 2) := by decide +kernel
theorem dX2_platesNeeded_26 : decode cX2_platesNeeded 26 = .ok (.iload 4, 2) := by decide +kernel
theorem dX2_platesNeeded_28 : decode cX2_platesNeeded 28 = .ok (.bipush 12, 2) := by decide +kernel
theorem dX2_platesNeeded_30 : decode cX2_platesNeeded 30 = .ok (.if_icmp .gt 34, 3) := by decide +kernel
theorem dX2_platesNeeded_33 : decode cX2_platesNeeded 33 = .ok (.aload_n 0, 1) := by decide +kernel
theorem dX2_platesNeeded_34 : decode cX2_platesNeeded 34 = .ok (.getfield 16, 3) := by decide +kernel
theorem dX2_platesNeeded_37 : decode cX2_platesNeeded 37 = .ok (.iload 4, 2) := by decide +kernel
theorem dX2_platesNeeded_39 : decode cX2_platesNeeded 39 = .ok (.putfield 45, 3) := by decide +kernel
theorem dX2_platesNeeded_42 : decode cX2_platesNeeded 42 = .ok (.aload_n 0, 1) := by decide +kernel
theorem dX2_platesNeeded_43 : decode cX2_platesNeeded 43 = .ok (.getfield 16, 3) := by decide +kernel
theorem dX2_platesNeeded_46 : decode cX2_platesNeeded 46 = .ok (.iload_n 1, 1) := by decide +kernel
theorem dX2_platesNeeded_47 : decode cX2_platesNeeded 47 = .ok (.iload_n 2, 1) := by decide +kernel
theorem dX2_platesNeeded_48 : decode cX2_platesNeeded 48 = .ok (.iload_n 3, 1) := by decide +kernel
theorem dX2_platesNeeded_49 : decode cX2_platesNeeded 49 = .ok (.invokevirtual 105, 3) := by decide +kernel
theorem dX2_platesNeeded_52 : decode cX2_platesNeeded 52 = .ok (.ifCond .eq 6, 3) := by decide +kernel
theorem dX2_platesNeeded_55 : decode cX2_platesNeeded 55 = .ok (.iload 4, 2) := by decide +kernel
theorem dX2_platesNeeded_57 : decode cX2_platesNeeded 57 = .ok (.ireturn, 1) := by decide +kernel
theorem dX2_platesNeeded_58 : decode cX2_platesNeeded 58 = .ok (.iinc 4 1, 3) := by decide +kernel
theorem dX2_platesNeeded_61 : decode cX2_platesNeeded 61 = .ok (.goto (-35), 3) := by decide +kernel
theorem dX2_platesNeeded_64 : decode cX2_platesNeeded 64 = .ok (.iconst (-1), 1) := by decide +kernel
theorem dX2_platesNeeded_65 : decode cX2_platesNeeded 65 = .ok (.ireturn, 1) := by decide +kernel
set_option maxRecDepth 20000 in
theorem ggX2_fewestMoves_X2_requireDirection : GoodIn wsX2_fewestMoves wsX2_requireDirection := goodIn_ca (goodIn_r _ [8, 9, 10, 11, 12, 7, 13] (by decide +kernel) (by decide +kernel)) (goodIn_sub (fun _ h => List.mem_cons_of_mem _ (List.mem_append_left _ (List.mem_append_right _ h))) (by decide +kernel))
set_option maxRecDepth 20000 in
theorem gX2_fewestMoves_X2_requireDirection : GoodIn wsX2_fewestMoves (va_wsS RX2 124 yX2_requireDirection wsX2_requireDirection) := goodIn_app (goodIn_of _ (by decide +kernel)) ggX2_fewestMoves_X2_requireDirection
set_option maxRecDepth 20000 in
theorem ggX2_fewestMoves_X2_requireLoad : GoodIn wsX2_fewestMoves wsX2_requireLoad := goodIn_ca (goodIn_r _ [16, 17, 18, 11, 12, 7, 13] (by decide +kernel) (by decide +kernel)) (goodIn_sub (fun _ h => List.mem_cons_of_mem _ (List.mem_append_right _ h)) (by decide +kernel))
set_option maxRecDepth 20000 in
theorem gX2_fewestMoves_X2_requireLoad : GoodIn wsX2_fewestMoves (va_wsS RX2 127 yX2_requireLoad wsX2_requireLoad) := goodIn_app (goodIn_of _ (by decide +kernel)) ggX2_fewestMoves_X2_requireLoad
set_option maxRecDepth 20000 in
theorem ggX2_fewestMoves_X2_requireReach : GoodIn wsX2_fewestMoves wsX2_requireReach := goodIn_ca (goodIn_r _ [21, 17, 18, 22, 23, 7, 24, 11, 12, 13] (by decide +kernel) (by decide +kernel)) (goodIn_sub (fun _ h => List.mem_cons_of_mem _ (List.mem_append_right _ h)) (by decide +kernel))
set_option maxRecDepth 20000 in
theorem gX2_fewestMoves_X2_requireReach : GoodIn wsX2_fewestMoves (va_wsS RX2 72 yX2_requireReach wsX2_requireReach) := goodIn_app (goodIn_of _ (by decide +kernel)) ggX2_fewestMoves_X2_requireReach
set_option maxRecDepth 20000 in
theorem ggX2_fewestMoves_X0_spread : GoodIn wsX2_fewestMoves wsX0_spread := goodIn_r _ [29, 30, 31, 32, 33, 34, 35, 28, 36, 37, 38, 39, 23, 7, 24, 11, 12, 13, 40, 41, 42, 43, 44, 45, 46, 47, 48, 49, 50, 51, 52, 53, 54, 55, 56, 57, 58, 59, 60, 61, 62, 63, 64, 65, 66, 67, 68, 82, 83, 84, 85, 86, 87] (by decide +kernel) (by decide +kernel)
set_option maxRecDepth 20000 in
theorem gX2_fewestMoves_X0_spread : GoodIn wsX2_fewestMoves (wsV RX2 130 RX0 yX0_spread wsX0_spread) := goodIn_app (goodIn_of _ (by decide +kernel)) ggX2_fewestMoves_X0_spread
set_option maxRecDepth 20000 in
theorem ggX2_fewestMoves_X0_movesTo : GoodIn wsX2_fewestMoves wsX0_movesTo := goodIn_r _ [72, 31, 37, 38, 28, 39, 23, 7, 24, 11, 12, 13, 82, 83, 84] (by decide +kernel) (by decide +kernel)
set_option maxRecDepth 20000 in
theorem gX2_fewestMoves_X0_movesTo : GoodIn wsX2_fewestMoves (wsV RX2 134 RX0 yX0_movesTo wsX0_movesTo) := goodIn_app (goodIn_of _ (by decide +kernel)) ggX2_fewestMoves_X0_movesTo
theorem dX2_fewestMoves_0 : decode cX2_fewestMoves 0 = .ok (.iload_n 2, 1) := by decide +kernel
theorem dX2_fewestMoves_1 : decode cX2_fewestMoves 1 = .ok (.invokestatic 124, 3) := by decide +kernel
theorem dX2_fewestMoves_4 : decode cX2_fewestMoves 4 = .ok (.iload_n 1, 1) := by decide +kernel
theorem dX2_fewestMoves_5 : decode cX2_fewestMoves 5 = .ok (.invokestatic 127, 3) := by decide +kernel
theorem dX2_fewestMoves_8 : decode cX2_fewestMoves 8 = .ok (.iload_n 3, 1) := by decide +kernel
theorem dX2_fewestMoves_9 : decode cX2_fewestMoves 9 = .ok (.invokestatic 72, 3) := by decide +kernel
theorem dX2_fewestMoves_12 : decode cX2_fewestMoves 12 = .ok (.aload_n 0, 1) := by decide +kernel
theorem dX2_fewestMoves_13 : decode cX2_fewestMoves 13 = .ok (.getfield 22, 3) := by decide +kernel
theorem dX2_fewestMoves_16 : decode cX2_fewestMoves 16 = .ok (.aload_n 0, 1) := by decide +kernel
theorem dX2_fewestMoves_17 : decode cX2_fewestMoves 17 = .ok (.getfield 12, 3) := by decide +kernel
theorem dX2_fewestMoves_20 : decode cX2_fewestMoves 20 = .ok (.iload_n 1, 1) := by decide +kernel
theorem dX2_fewestMoves_21 : decode cX2_fewestMoves 21 = .ok (.aload_n 0, 1) := by decide +kernel
theorem dX2_fewestMoves_22 : decode cX2_fewestMoves 22 = .ok (.getfield 98, 3) := by decide +kernel
theorem dX2_fewestMoves_25 : decode cX2_fewestMoves 25 = .ok (.aload_n 0, 1) := by decide +kernel
theorem dX2_fewestMoves_26 : decode cX2_fewestMoves 26 = .ok (.getfield 26, 3) := by decide +kernel
theorem dX2_fewestMoves_29 : decode cX2_fewestMoves 29 = .ok (.invokevirtual 130, 3) := by decide +kernel
theorem dX2_fewestMoves_32 : decode cX2_fewestMoves 32 = .ok (.pop, 1) := by decide +kernel
theorem dX2_fewestMoves_33 : decode cX2_fewestMoves 33 = .ok (.aload_n 0, 1) := by decide +kernel
theorem dX2_fewestMoves_34 : decode cX2_fewestMoves 34 = .ok (.getfield 22, 3) := by decide +kernel
theorem dX2_fewestMoves_37 : decode cX2_fewestMoves 37 = .ok (.iload_n 2, 1) := by decide +kernel
theorem dX2_fewestMoves_38 : decode cX2_fewestMoves 38 = .ok (.iload_n 3, 1) := by decide +kernel
theorem dX2_fewestMoves_39 : decode cX2_fewestMoves 39 = .ok (.invokevirtual 134, 3) := by decide +kernel
theorem dX2_fewestMoves_42 : decode cX2_fewestMoves 42 = .ok (.ireturn, 1) := by decide +kernel
set_option maxRecDepth 20000 in
theorem ggX2_placesWithin_X2_requireLoad : GoodIn wsX2_placesWithin wsX2_requireLoad := goodIn_ca (goodIn_r _ [8, 9, 10, 11, 12, 7, 13] (by decide +kernel) (by decide +kernel)) (goodIn_sub (fun _ h => List.mem_cons_of_mem _ (List.mem_append_right _ h)) (by decide +kernel))
set_option maxRecDepth 20000 in
theorem gX2_placesWithin_X2_requireLoad : GoodIn wsX2_placesWithin (va_wsS RX2 127 yX2_requireLoad wsX2_requireLoad) := goodIn_app (goodIn_of _ (by decide +kernel)) ggX2_placesWithin_X2_requireLoad
set_option maxRecDepth 20000 in
theorem ggX2_placesWithin_X0_spread : GoodIn wsX2_placesWithin wsX0_spread := goodIn_r _ [18, 19, 20, 21, 22, 23, 24, 17, 25, 26, 27, 28, 29, 7, 30, 11, 12, 13, 31, 32, 33, 34, 35, 36, 37, 38, 39, 40, 41, 42, 43, 44, 45, 46, 47, 48, 49, 50, 51, 52, 53, 54, 55, 56, 57, 58, 59, 69, 70, 71, 72, 73, 74] (by decide +kernel) (by decide +kernel)
set_option maxRecDepth 20000 in
theorem gX2_placesWithin_X0_spread : GoodIn wsX2_placesWithin (wsV RX2 130 RX0 yX0_spread wsX0_spread) := goodIn_app (goodIn_of _ (by decide +kernel)) ggX2_placesWithin_X0_spread
theorem dX2_placesWithin_0 : decode cX2_placesWithin 0 = .ok (.iload_n 1, 1) := by decide +kernel
theorem dX2_placesWithin_1 : decode cX2_placesWithin 1 = .ok (.invokestatic 127, 3) := by decide +kernel
theorem dX2_placesWithin_4 : decode cX2_placesWithin 4 = .ok (.aload_n 0, 1) := by decide +kernel
theorem dX2_placesWithin_5 : decode cX2_placesWithin 5 = .ok (.getfield 22, 3) := by decide +kernel
theorem dX2_placesWithin_8 : decode cX2_placesWithin 8 = .ok (.aload_n 0, 1) := by decide +kernel
theorem dX2_placesWithin_9 : decode cX2_placesWithin 9 = .ok (.getfield 12, 3) := by decide +kernel
theorem dX2_placesWithin_12 : decode cX2_placesWithin 12 = .ok (.iload_n 1, 1) := by decide +kernel
theorem dX2_placesWithin_13 : decode cX2_placesWithin 13 = .ok (.aload_n 0, 1) := by decide +kernel
theorem dX2_placesWithin_14 : decode cX2_placesWithin 14 = .ok (.getfield 98, 3) := by decide +kernel
theorem dX2_placesWithin_17 : decode cX2_placesWithin 17 = .ok (.aload_n 0, 1) := by decide +kernel
theorem dX2_placesWithin_18 : decode cX2_placesWithin 18 = .ok (.getfield 26, 3) := by decide +kernel
theorem dX2_placesWithin_21 : decode cX2_placesWithin 21 = .ok (.invokevirtual 130, 3) := by decide +kernel
theorem dX2_placesWithin_24 : decode cX2_placesWithin 24 = .ok (.ireturn, 1) := by decide +kernel
set_option maxRecDepth 20000 in
theorem ggX2_bestOutrigger_X2_requireLoad : GoodIn wsX2_bestOutrigger wsX2_requireLoad := goodIn_ca (goodIn_r _ [9, 10, 11, 12, 13, 8, 14] (by decide +kernel) (by decide +kernel)) (goodIn_sub (fun _ h => List.mem_cons_of_mem _ (List.mem_append_right _ h)) (by decide +kernel))
set_option maxRecDepth 20000 in
theorem gX2_bestOutrigger_X2_requireLoad : GoodIn wsX2_bestOutrigger (va_wsS RX2 127 yX2_requireLoad wsX2_requireLoad) := goodIn_app (goodIn_of _ (by decide +kernel)) ggX2_bestOutrigger_X2_requireLoad
set_option maxRecDepth 20000 in
theorem ggX2_bestOutrigger_X1_drawn : GoodIn wsX2_bestOutrigger wsX1_drawn := goodIn_r _ [19, 20, 84, 85, 86] (by decide +kernel) (by decide +kernel)
set_option maxRecDepth 20000 in
theorem gX2_bestOutrigger_X1_drawn : GoodIn wsX2_bestOutrigger (wsV RX2 68 RX1 yX1_drawn wsX1_drawn) := goodIn_app (goodIn_of _ (by decide +kernel)) ggX2_bestOutrigger_X1_drawn
set_option maxRecDepth 20000 in
theorem ggX2_bestOutrigger_X1_becomeLike : GoodIn wsX2_bestOutrigger wsX1_becomeLike := goodIn_r _ [24, 25, 26, 16, 17, 18, 19, 20, 27, 28, 29, 30, 31, 32, 33, 34, 35, 36, 37, 38, 39, 84, 85, 86] (by decide +kernel) (by decide +kernel)
set_option maxRecDepth 20000 in
theorem gX2_bestOutrigger_X1_becomeLike : GoodIn wsX2_bestOutrigger (wsV RX2 41 RX1 yX1_becomeLike wsX1_becomeLike) := goodIn_app (goodIn_of _ (by decide +kernel)) ggX2_bestOutrigger_X1_becomeLike
set_option maxRecDepth 20000 in
theorem ggX2_bestOutrigger_X1_draw : GoodIn wsX2_bestOutrigger wsX1_draw := goodIn_r _ [30, 20, 84, 85, 86] (by decide +kernel) (by decide +kernel)
set_option maxRecDepth 20000 in
theorem gX2_bestOutrigger_X1_draw : GoodIn wsX2_bestOutrigger (wsV RX2 64 RX1 yX1_draw wsX1_draw) := goodIn_app (goodIn_of _ (by decide +kernel)) ggX2_bestOutrigger_X1_draw
set_option maxRecDepth 20000 in
theorem ggX2_bestOutrigger_X0_spread : GoodIn wsX2_bestOutrigger wsX0_spread := goodIn_r _ [45, 46, 47, 48, 49, 50, 51, 44, 52, 53, 54, 55, 56, 8, 57, 12, 13, 14, 58, 59, 60, 18, 61, 31, 32, 33, 34, 35, 62, 63, 64, 65, 25, 26, 16, 17, 19, 20, 66, 67, 68, 69, 70, 71, 72, 73, 74, 87, 88, 89, 84, 85, 86] (by decide +kernel) (by decide +kernel)
set_option maxRecDepth 20000 in
theorem gX2_bestOutrigger_X0_spread : GoodIn wsX2_bestOutrigger (wsV RX2 130 RX0 yX0_spread wsX0_spread) := goodIn_app (goodIn_of _ (by decide +kernel)) ggX2_bestOutrigger_X0_spread
theorem dX2_bestOutrigger_0 : decode cX2_bestOutrigger 0 = .ok (.iload_n 1, 1) := by decide +kernel
theorem dX2_bestOutrigger_1 : decode cX2_bestOutrigger 1 = .ok (.invokestatic 127, 3) := by decide +kernel
theorem dX2_bestOutrigger_4 : decode cX2_bestOutrigger 4 = .ok (.iconst (-1), 1) := by decide +kernel
theorem dX2_bestOutrigger_5 : decode cX2_bestOutrigger 5 = .ok (.istore_n 2, 1) := by decide +kernel
theorem dX2_bestOutrigger_6 : decode cX2_bestOutrigger 6 = .ok (.iconst (-1), 1) := by decide +kernel
theorem dX2_bestOutrigger_7 : decode cX2_bestOutrigger 7 = .ok (.istore_n 3, 1) := by decide +kernel
theorem dX2_bestOutrigger_8 : decode cX2_bestOutrigger 8 = .ok (.iconst 0, 1) := by decide +kernel
theorem dX2_bestOutrigger_9 : decode cX2_bestOutrigger 9 = .ok (.istore 4, 2) := by decide +kernel
theorem dX2_bestOutrigger_11 : decode cX2_bestOutrigger 11 = .ok (.iload 4, 2) := by decide +kernel
theorem dX2_bestOutrigger_13 : decode cX2_bestOutrigger 13 = .ok (.iconst 4, 1) := by decide +kernel
theorem dX2_bestOutrigger_14 : decode cX2_bestOutrigger 14 = .ok (.if_icmp .ge 85, 3) := by decide +kernel
theorem dX2_bestOutrigger_17 : decode cX2_bestOutrigger 17 = .ok (.aload_n 0, 1) := by decide +kernel
theorem dX2_bestOutrigger_18 : decode cX2_bestOutrigger 18 = .ok (.getfield 12, 3) := by decide +kernel
theorem dX2_bestOutrigger_21 : decode cX2_bestOutrigger 21 = .ok (.iload 4, 2) := by decide +kernel
theorem dX2_bestOutrigger_23 : decode cX2_bestOutrigger 23 = .ok (.invokevirtual 68, 3) := by decide +kernel
theorem dX2_bestOutrigger_26 : decode cX2_bestOutrigger 26 = .ok (.istore 5, 2) := by decide +kernel
theorem dX2_bestOutrigger_28 : decode cX2_bestOutrigger 28 = .ok (.iload 5, 2) := by decide +kernel
theorem dX2_bestOutrigger_30 : decode cX2_bestOutrigger 30 = .ok (.bipush 6, 2) := by decide +kernel
theorem dX2_bestOutrigger_32 : decode cX2_bestOutrigger 32 = .ok (.if_icmp .ge 61, 3) := by decide +kernel
theorem dX2_bestOutrigger_35 : decode cX2_bestOutrigger 35 = .ok (.aload_n 0, 1) := by decide +kernel
theorem dX2_bestOutrigger_36 : decode cX2_bestOutrigger 36 = .ok (.getfield 16, 3) := by decide +kernel
theorem dX2_bestOutrigger_39 : decode cX2_bestOutrigger 39 = .ok (.aload_n 0, 1) := by decide +kernel
theorem dX2_bestOutrigger_40 : decode cX2_bestOutrigger 40 = .ok (.getfield 12, 3) := by decide +kernel
theorem dX2_bestOutrigger_43 : decode cX2_bestOutrigger 43 = .ok (.invokevirtual 41, 3) := by decide +kernel
theorem dX2_bestOutrigger_46 : decode cX2_bestOutrigger 46 = .ok (.aload_n 0, 1) := by decide +kernel
theorem dX2_bestOutrigger_47 : decode cX2_bestOutrigger 47 = .ok (.getfield 16, 3) := by decide +kernel
theorem dX2_bestOutrigger_50 : decode cX2_bestOutrigger 50 = .ok (.iload 4, 2) := by decide +kernel
theorem dX2_bestOutrigger_52 : decode cX2_bestOutrigger 52 = .ok (.iload 5, 2) := by decide +kernel
theorem dX2_bestOutrigger_54 : decode cX2_bestOutrigger 54 = .ok (.iconst 1, 1) := by decide +kernel
theorem dX2_bestOutrigger_55 : decode cX2_bestOutrigger 55 = .ok (.iadd, 1) := by decide +kernel
theorem dX2_bestOutrigger_56 : decode cX2_bestOutrigger 56 = .ok (.invokevirtual 64, 3) := by decide +kernel
theorem dX2_bestOutrigger_59 : decode cX2_bestOutrigger 59 = .ok (.aload_n 0, 1) := by decide +kernel
theorem dX2_bestOutrigger_60 : decode cX2_bestOutrigger 60 = .ok (.getfield 22, 3) := by decide +kernel
theorem dX2_bestOutrigger_63 : decode cX2_bestOutrigger 63 = .ok (.aload_n 0, 1) := by decide +kernel
theorem dX2_bestOutrigger_64 : decode cX2_bestOutrigger 64 = .ok (.getfield 16, 3) := by decide +kernel
theorem dX2_bestOutrigger_67 : decode cX2_bestOutrigger 67 = .ok (.iload_n 1, 1) := by decide +kernel
theorem dX2_bestOutrigger_68 : decode cX2_bestOutrigger 68 = .ok (.aload_n 0, 1) := by decide +kernel
theorem dX2_bestOutrigger_69 : decode cX2_bestOutrigger 69 = .ok (.getfield 98, 3) := by decide +kernel
theorem dX2_bestOutrigger_72 : decode cX2_bestOutrigger 72 = .ok (.aload_n 0, 1) := by decide +kernel
theorem dX2_bestOutrigger_73 : decode cX2_bestOutrigger 73 = .ok (.getfield 26, 3) := by decide +kernel
theorem dX2_bestOutrigger_76 : decode cX2_bestOutrigger 76 = .ok (.invokevirtual 130, 3) := by decide +kernel
theorem dX2_bestOutrigger_79 : decode cX2_bestOutrigger 79 = .ok (.istore 6, 2) := by decide +kernel
theorem dX2_bestOutrigger_81 : decode cX2_bestOutrigger 81 = .ok (.iload 6, 2) := by decide +kernel
theorem dX2_bestOutrigger_83 : decode cX2_bestOutrigger 83 = .ok (.iload_n 3, 1) := by decide +kernel
theorem dX2_bestOutrigger_84 : decode cX2_bestOutrigger 84 = .ok (.if_icmp .le 9, 3) := by decide +kernel
theorem dX2_bestOutrigger_87 : decode cX2_bestOutrigger 87 = .ok (.iload 4, 2) := by decide +kernel
theorem dX2_bestOutrigger_89 : decode cX2_bestOutrigger 89 = .ok (.istore_n 2, 1) := by decide +kernel
theorem dX2_bestOutrigger_90 : decode cX2_bestOutrigger 90 = .ok (.iload 6, 2) := by decide +kernel
theorem dX2_bestOutrigger_92 : decode cX2_bestOutrigger 92 = .ok (.istore_n 3, 1) := by decide +kernel
theorem dX2_bestOutrigger_93 : decode cX2_bestOutrigger 93 = .ok (.iinc 4 1, 3) := by decide +kernel
theorem dX2_bestOutrigger_96 : decode cX2_bestOutrigger 96 = .ok (.goto (-85), 3) := by decide +kernel
theorem dX2_bestOutrigger_99 : decode cX2_bestOutrigger 99 = .ok (.iload_n 2, 1) := by decide +kernel
theorem dX2_bestOutrigger_100 : decode cX2_bestOutrigger 100 = .ok (.ireturn, 1) := by decide +kernel
theorem dX2_meanLoad_0 : decode cX2_meanLoad 0 = .ok (.aload_n 0, 1) := by decide +kernel
theorem dX2_meanLoad_1 : decode cX2_meanLoad 1 = .ok (.getfield 85, 3) := by decide +kernel
theorem dX2_meanLoad_4 : decode cX2_meanLoad 4 = .ok (.ifCond .ne 7, 3) := by decide +kernel
theorem dX2_meanLoad_7 : decode cX2_meanLoad 7 = .ok (.dconst 0, 1) := by decide +kernel
theorem dX2_meanLoad_8 : decode cX2_meanLoad 8 = .ok (.goto 14, 3) := by decide +kernel
theorem dX2_meanLoad_11 : decode cX2_meanLoad 11 = .ok (.aload_n 0, 1) := by decide +kernel
theorem dX2_meanLoad_12 : decode cX2_meanLoad 12 = .ok (.getfield 88, 3) := by decide +kernel
theorem dX2_meanLoad_15 : decode cX2_meanLoad 15 = .ok (.i2d, 1) := by decide +kernel
theorem dX2_meanLoad_16 : decode cX2_meanLoad 16 = .ok (.aload_n 0, 1) := by decide +kernel
theorem dX2_meanLoad_17 : decode cX2_meanLoad 17 = .ok (.getfield 85, 3) := by decide +kernel
theorem dX2_meanLoad_20 : decode cX2_meanLoad 20 = .ok (.i2d, 1) := by decide +kernel
theorem dX2_meanLoad_21 : decode cX2_meanLoad 21 = .ok (.ddiv, 1) := by decide +kernel
theorem dX2_meanLoad_22 : decode cX2_meanLoad 22 = .ok (.dreturn, 1) := by decide +kernel
set_option maxRecDepth 20000 in
theorem ggX2_digest_X2_mixed : GoodIn wsX2_digest wsX2_mixed := goodIn_r _ [13, 14] (by decide +kernel) (by decide +kernel)
set_option maxRecDepth 20000 in
theorem gX2_digest_X2_mixed : GoodIn wsX2_digest (va_wsS RX2 139 yX2_mixed wsX2_mixed) := goodIn_app (goodIn_of _ (by decide +kernel)) ggX2_digest_X2_mixed
set_option maxRecDepth 20000 in
theorem ggX2_digest_X2_weakestSide : GoodIn wsX2_digest wsX2_weakestSide := goodIn_r _ [18, 5, 4, 2, 3, 19, 20, 21, 22, 23, 24, 25, 26, 27, 28, 29, 30, 31, 32, 67, 68, 69, 70, 71, 72, 73, 74, 75, 76, 77, 78] (by decide +kernel) (by decide +kernel)
set_option maxRecDepth 20000 in
theorem gX2_digest_X2_weakestSide : GoodIn wsX2_digest (wsV RX2 143 RX2 yX2_weakestSide wsX2_weakestSide) := goodIn_app (goodIn_of _ (by decide +kernel)) ggX2_digest_X2_weakestSide
set_option maxRecDepth 20000 in
theorem ggX2_digest_X2_greatestLoad : GoodIn wsX2_digest wsX2_greatestLoad := goodIn_r _ [36, 5, 2, 3, 37, 38, 39, 22, 40, 41, 42, 43, 44, 45, 46, 20, 21, 23, 24, 25, 26, 27, 28, 29, 30, 31, 32, 67, 68, 69, 70, 71, 72, 73, 74, 75, 76, 77, 78] (by decide +kernel) (by decide +kernel)
set_option maxRecDepth 20000 in
theorem gX2_digest_X2_greatestLoad : GoodIn wsX2_digest (wsV RX2 147 RX2 yX2_greatestLoad wsX2_greatestLoad) := goodIn_app (goodIn_of _ (by decide +kernel)) ggX2_digest_X2_greatestLoad
set_option maxRecDepth 20000 in
theorem ggX2_digest_X1_drawn : GoodIn wsX2_digest wsX1_drawn := goodIn_r _ [28, 29, 76, 77, 78] (by decide +kernel) (by decide +kernel)
set_option maxRecDepth 20000 in
theorem gX2_digest_X1_drawn : GoodIn wsX2_digest (wsV RX2 68 RX1 yX1_drawn wsX1_drawn) := goodIn_app (goodIn_of _ (by decide +kernel)) ggX2_digest_X1_drawn
set_option maxRecDepth 20000 in
theorem ggX2_digest_X1_strain : GoodIn wsX2_digest wsX1_strain := goodIn_r _ [23, 24, 25, 26, 27, 22, 28, 29, 30, 31, 32, 76, 77, 78] (by decide +kernel) (by decide +kernel)
set_option maxRecDepth 20000 in
theorem gX2_digest_X1_strain : GoodIn wsX2_digest (wsV RX2 117 RX1 yX1_strain wsX1_strain) := goodIn_app (goodIn_of _ (by decide +kernel)) ggX2_digest_X1_strain
set_option maxRecDepth 20000 in
theorem ggX2_digest_X1_allowed : GoodIn wsX2_digest wsX1_allowed := goodIn_r _ [44, 45, 76, 77, 78] (by decide +kernel) (by decide +kernel)
set_option maxRecDepth 20000 in
theorem gX2_digest_X1_allowed : GoodIn wsX2_digest (wsV RX2 80 RX1 yX1_allowed wsX1_allowed) := goodIn_app (goodIn_of _ (by decide +kernel)) ggX2_digest_X1_allowed
set_option maxRecDepth 20000 in
theorem ggX2_digest_X2_safeDirections : GoodIn wsX2_digest wsX2_safeDirections := goodIn_ca (goodIn_r _ [52, 5, 53, 54, 12, 55, 56, 57, 58, 59, 60, 61, 62, 63, 64, 65, 66, 37, 38, 39, 22, 40, 41, 42, 43, 44, 45, 46, 20, 21, 23, 24, 25, 26, 27, 28, 29, 30, 31, 32, 67, 68, 69, 70, 71, 72, 73, 74, 75, 76, 77, 78] (by decide +kernel) (by decide +kernel)) (goodIn_sub (fun _ h => List.mem_cons_of_mem _ (List.mem_append_right _ h)) (by decide +kernel))
set_option maxRecDepth 20000 in
theorem gX2_digest_X2_safeDirections : GoodIn wsX2_digest (wsV RX2 150 RX2 yX2_safeDirections wsX2_safeDirections) := goodIn_app (goodIn_of _ (by decide +kernel)) ggX2_digest_X2_safeDirections
theorem dX2_digest_0 : decode cX2_digest 0 = .ok (.ldc2_w 137, 3) := by decide +kernel
theorem dX2_digest_3 : decode cX2_digest 3 = .ok (.lstore_n 1, 1) := by decide +kernel
theorem dX2_digest_4 : decode cX2_digest 4 = .ok (.lload_n 1, 1) := by decide +kernel
theorem dX2_digest_5 : decode cX2_digest 5 = .ok (.aload_n 0, 1) := by decide +kernel
theorem dX2_digest_6 : decode cX2_digest 6 = .ok (.getfield 98, 3) := by decide +kernel
theorem dX2_digest_9 : decode cX2_digest 9 = .ok (.invokestatic 139, 3) := by decide +kernel
theorem dX2_digest_12 : decode cX2_digest 12 = .ok (.lstore_n 1, 1) := by decide +kernel
theorem dX2_digest_13 : decode cX2_digest 13 = .ok (.lload_n 1, 1) := by decide +kernel
theorem dX2_digest_14 : decode cX2_digest 14 = .ok (.aload_n 0, 1) := by decide +kernel
theorem dX2_digest_15 : decode cX2_digest 15 = .ok (.getfield 26, 3) := by decide +kernel
theorem dX2_digest_18 : decode cX2_digest 18 = .ok (.invokestatic 139, 3) := by decide +kernel
theorem dX2_digest_21 : decode cX2_digest 21 = .ok (.lstore_n 1, 1) := by decide +kernel
theorem dX2_digest_22 : decode cX2_digest 22 = .ok (.lload_n 1, 1) := by decide +kernel
theorem dX2_digest_23 : decode cX2_digest 23 = .ok (.aload_n 0, 1) := by decide +kernel
theorem dX2_digest_24 : decode cX2_digest 24 = .ok (.getfield 48, 3) := by decide +kernel
theorem dX2_digest_27 : decode cX2_digest 27 = .ok (.invokestatic 139, 3) := by decide +kernel
theorem dX2_digest_30 : decode cX2_digest 30 = .ok (.lstore_n 1, 1) := by decide +kernel
theorem dX2_digest_31 : decode cX2_digest 31 = .ok (.lload_n 1, 1) := by decide +kernel
theorem dX2_digest_32 : decode cX2_digest 32 = .ok (.aload_n 0, 1) := by decide +kernel
theorem dX2_digest_33 : decode cX2_digest 33 = .ok (.getfield 12, 3) := by decide +kernel
theorem dX2_digest_36 : decode cX2_digest 36 = .ok (.getfield 45, 3) := by decide +kernel
theorem dX2_digest_39 : decode cX2_digest 39 = .ok (.invokestatic 139, 3) := by decide +kernel
theorem dX2_digest_42 : decode cX2_digest 42 = .ok (.lstore_n 1, 1) := by decide +kernel
theorem dX2_digest_43 : decode cX2_digest 43 = .ok (.lload_n 1, 1) := by decide +kernel
theorem dX2_digest_44 : decode cX2_digest 44 = .ok (.aload_n 0, 1) := by decide +kernel
theorem dX2_digest_45 : decode cX2_digest 45 = .ok (.invokevirtual 143, 3) := by decide +kernel
theorem dX2_digest_48 : decode cX2_digest 48 = .ok (.invokestatic 139, 3) := by decide +kernel
theorem dX2_digest_51 : decode cX2_digest 51 = .ok (.lstore_n 1, 1) := by decide +kernel
theorem dX2_digest_52 : decode cX2_digest 52 = .ok (.lload_n 1, 1) := by decide +kernel
theorem dX2_digest_53 : decode cX2_digest 53 = .ok (.aload_n 0, 1) := by decide +kernel
theorem dX2_digest_54 : decode cX2_digest 54 = .ok (.getfield 85, 3) := by decide +kernel
theorem dX2_digest_57 : decode cX2_digest 57 = .ok (.invokestatic 139, 3) := by decide +kernel
theorem dX2_digest_60 : decode cX2_digest 60 = .ok (.lstore_n 1, 1) := by decide +kernel
theorem dX2_digest_61 : decode cX2_digest 61 = .ok (.lload_n 1, 1) := by decide +kernel
theorem dX2_digest_62 : decode cX2_digest 62 = .ok (.aload_n 0, 1) := by decide +kernel
theorem dX2_digest_63 : decode cX2_digest 63 = .ok (.getfield 88, 3) := by decide +kernel
theorem dX2_digest_66 : decode cX2_digest 66 = .ok (.invokestatic 139, 3) := by decide +kernel
theorem dX2_digest_69 : decode cX2_digest 69 = .ok (.lstore_n 1, 1) := by decide +kernel
theorem dX2_digest_70 : decode cX2_digest 70 = .ok (.lload_n 1, 1) := by decide +kernel
theorem dX2_digest_71 : decode cX2_digest 71 = .ok (.aload_n 0, 1) := by decide +kernel
theorem dX2_digest_72 : decode cX2_digest 72 = .ok (.getfield 121, 3) := by decide +kernel
theorem dX2_digest_75 : decode cX2_digest 75 = .ok (.invokestatic 139, 3) := by decide +kernel
theorem dX2_digest_78 : decode cX2_digest 78 = .ok (.lstore_n 1, 1) := by decide +kernel
theorem dX2_digest_79 : decode cX2_digest 79 = .ok (.lload_n 1, 1) := by decide +kernel
theorem dX2_digest_80 : decode cX2_digest 80 = .ok (.aload_n 0, 1) := by decide +kernel
theorem dX2_digest_81 : decode cX2_digest 81 = .ok (.invokevirtual 147, 3) := by decide +kernel
theorem dX2_digest_84 : decode cX2_digest 84 = .ok (.invokestatic 139, 3) := by decide +kernel
theorem dX2_digest_87 : decode cX2_digest 87 = .ok (.lstore_n 1, 1) := by decide +kernel
theorem dX2_digest_88 : decode cX2_digest 88 = .ok (.iconst 0, 1) := by decide +kernel
theorem dX2_digest_89 : decode cX2_digest 89 = .ok (.istore_n 3, 1) := by decide +kernel
theorem dX2_digest_90 : decode cX2_digest 90 = .ok (.iload_n 3, 1) := by decide +kernel
theorem dX2_digest_91 : decode cX2_digest 91 = .ok (.iconst 4, 1) := by decide +kernel
theorem dX2_digest_92 : decode cX2_digest 92 = .ok (.if_icmp .ge 47, 3) := by decide +kernel
theorem dX2_digest_95 : decode cX2_digest 95 = .ok (.lload_n 1, 1) := by decide +kernel
theorem dX2_digest_96 : decode cX2_digest 96 = .ok (.aload_n 0, 1) := by decide +kernel
theorem dX2_digest_97 : decode cX2_digest 97 = .ok (.getfield 12, 3) := by decide +kernel
theorem dX2_digest_100 : decode cX2_digest 100 = .ok (.iload_n 3, 1) := by decide +kernel
theorem dX2_digest_101 : decode cX2_digest 101 = .ok (.invokevirtual 68, 3) := by decide +kernel
theorem dX2_digest_104 : decode cX2_digest 104 = .ok (.invokestatic 139, 3) := by decide +kernel
theorem dX2_digest_107 : decode cX2_digest 107 = .ok (.lstore_n 1, 1) := by decide +kernel
theorem dX2_digest_108 : decode cX2_digest 108 = .ok (.lload_n 1, 1) := by decide +kernel
theorem dX2_digest_109 : decode cX2_digest 109 = .ok (.aload_n 0, 1) := by decide +kernel
theorem dX2_digest_110 : decode cX2_digest 110 = .ok (.getfield 12, 3) := by decide +kernel
theorem dX2_digest_113 : decode cX2_digest 113 = .ok (.iload_n 3, 1) := by decide +kernel
theorem dX2_digest_114 : decode cX2_digest 114 = .ok (.aload_n 0, 1) := by decide +kernel
theorem dX2_digest_115 : decode cX2_digest 115 = .ok (.getfield 48, 3) := by decide +kernel
theorem dX2_digest_118 : decode cX2_digest 118 = .ok (.aload_n 0, 1) := by decide +kernel
theorem dX2_digest_119 : decode cX2_digest 119 = .ok (.getfield 98, 3) := by decide +kernel
theorem dX2_digest_122 : decode cX2_digest 122 = .ok (.aload_n 0, 1) := by decide +kernel
theorem dX2_digest_123 : decode cX2_digest 123 = .ok (.getfield 26, 3) := by decide +kernel
theorem dX2_digest_126 : decode cX2_digest 126 = .ok (.invokevirtual 117, 3) := by decide +kernel
theorem dX2_digest_129 : decode cX2_digest 129 = .ok (.invokestatic 139, 3) := by decide +kernel
theorem dX2_digest_132 : decode cX2_digest 132 = .ok (.lstore_n 1, 1) := by decide +kernel
theorem dX2_digest_133 : decode cX2_digest 133 = .ok (.iinc 3 1, 3) := by decide +kernel
theorem dX2_digest_136 : decode cX2_digest 136 = .ok (.goto (-46), 3) := by decide +kernel
theorem dX2_digest_139 : decode cX2_digest 139 = .ok (.iconst 3, 1) := by decide +kernel
theorem dX2_digest_140 : decode cX2_digest 140 = .ok (.istore_n 3, 1) := by decide +kernel
theorem dX2_digest_141 : decode cX2_digest 141 = .ok (.iload_n 3, 1) := by decide +kernel
theorem dX2_digest_142 : decode cX2_digest 142 = .ok (.bipush 30, 2) := by decide +kernel
theorem dX2_digest_144 : decode cX2_digest 144 = .ok (.if_icmp .gt 33, 3) := by decide +kernel
theorem dX2_digest_147 : decode cX2_digest 147 = .ok (.lload_n 1, 1) := by decide +kernel
theorem dX2_digest_148 : decode cX2_digest 148 = .ok (.aload_n 0, 1) := by decide +kernel
theorem dX2_digest_149 : decode cX2_digest 149 = .ok (.getfield 12, 3) := by decide +kernel
theorem dX2_digest_152 : decode cX2_digest 152 = .ok (.iload_n 3, 1) := by decide +kernel
theorem dX2_digest_153 : decode cX2_digest 153 = .ok (.invokevirtual 80, 3) := by decide +kernel
theorem dX2_digest_156 : decode cX2_digest 156 = .ok (.invokestatic 139, 3) := by decide +kernel
theorem dX2_digest_159 : decode cX2_digest 159 = .ok (.lstore_n 1, 1) := by decide +kernel
theorem dX2_digest_160 : decode cX2_digest 160 = .ok (.lload_n 1, 1) := by decide +kernel
theorem dX2_digest_161 : decode cX2_digest 161 = .ok (.aload_n 0, 1) := by decide +kernel
theorem dX2_digest_162 : decode cX2_digest 162 = .ok (.iconst 5, 1) := by decide +kernel
theorem dX2_digest_163 : decode cX2_digest 163 = .ok (.iload_n 3, 1) := by decide +kernel
theorem dX2_digest_164 : decode cX2_digest 164 = .ok (.invokevirtual 150, 3) := by decide +kernel
theorem dX2_digest_167 : decode cX2_digest 167 = .ok (.invokestatic 139, 3) := by decide +kernel
theorem dX2_digest_170 : decode cX2_digest 170 = .ok (.lstore_n 1, 1) := by decide +kernel
theorem dX2_digest_171 : decode cX2_digest 171 = .ok (.iinc 3 1, 3) := by decide +kernel
theorem dX2_digest_174 : decode cX2_digest 174 = .ok (.goto (-33), 3) := by decide +kernel
theorem dX2_digest_177 : decode cX2_digest 177 = .ok (.lload_n 1, 1) := by decide +kernel
theorem dX2_digest_178 : decode cX2_digest 178 = .ok (.lreturn, 1) := by decide +kernel
theorem dX2_mixed_0 : decode cX2_mixed 0 = .ok (.lload_n 0, 1) := by decide +kernel
theorem dX2_mixed_1 : decode cX2_mixed 1 = .ok (.ldc2_w 153, 3) := by decide +kernel
theorem dX2_mixed_4 : decode cX2_mixed 4 = .ok (.lmul, 1) := by decide +kernel
theorem dX2_mixed_5 : decode cX2_mixed 5 = .ok (.iload_n 2, 1) := by decide +kernel
theorem dX2_mixed_6 : decode cX2_mixed 6 = .ok (.i2l, 1) := by decide +kernel
theorem dX2_mixed_7 : decode cX2_mixed 7 = .ok (.ladd, 1) := by decide +kernel
theorem dX2_mixed_8 : decode cX2_mixed 8 = .ok (.lreturn, 1) := by decide +kernel
theorem dX2_countMoves_0 : decode cX2_countMoves 0 = .ok (.aload_n 0, 1) := by decide +kernel
theorem dX2_countMoves_1 : decode cX2_countMoves 1 = .ok (.getfield 48, 3) := by decide +kernel
theorem dX2_countMoves_4 : decode cX2_countMoves 4 = .ok (.ifCond .le 13, 3) := by decide +kernel
theorem dX2_countMoves_7 : decode cX2_countMoves 7 = .ok (.aload_n 0, 1) := by decide +kernel
theorem dX2_countMoves_8 : decode cX2_countMoves 8 = .ok (.dup, 1) := by decide +kernel
theorem dX2_countMoves_9 : decode cX2_countMoves 9 = .ok (.getfield 121, 3) := by decide +kernel
theorem dX2_countMoves_12 : decode cX2_countMoves 12 = .ok (.iload_n 1, 1) := by decide +kernel
theorem dX2_countMoves_13 : decode cX2_countMoves 13 = .ok (.iadd, 1) := by decide +kernel
theorem dX2_countMoves_14 : decode cX2_countMoves 14 = .ok (.putfield 121, 3) := by decide +kernel
theorem dX2_countMoves_17 : decode cX2_countMoves 17 = .ok (.return_, 1) := by decide +kernel
set_option maxRecDepth 20000 in
theorem ggX2_requireSafe_X1_isSafe : GoodIn wsX2_requireSafe wsX1_isSafe := goodIn_r _ [9, 10, 11, 12, 8, 13, 14, 15, 16, 17, 18, 19, 20, 21, 22, 23, 24, 25, 26, 27, 37, 38, 39] (by decide +kernel) (by decide +kernel)
set_option maxRecDepth 20000 in
theorem gX2_requireSafe_X1_isSafe : GoodIn wsX2_requireSafe (wsV RX2 105 RX1 yX1_isSafe wsX1_isSafe) := goodIn_app (goodIn_of _ (by decide +kernel)) ggX2_requireSafe_X1_isSafe
theorem dX2_requireSafe_0 : decode cX2_requireSafe 0 = .ok (.aload_n 1, 1) := by decide +kernel
theorem dX2_requireSafe_1 : decode cX2_requireSafe 1 = .ok (.iload_n 2, 1) := by decide +kernel
theorem dX2_requireSafe_2 : decode cX2_requireSafe 2 = .ok (.aload_n 0, 1) := by decide +kernel
theorem dX2_requireSafe_3 : decode cX2_requireSafe 3 = .ok (.getfield 98, 3) := by decide +kernel
theorem dX2_requireSafe_6 : decode cX2_requireSafe 6 = .ok (.aload_n 0, 1) := by decide +kernel
theorem dX2_requireSafe_7 : decode cX2_requireSafe 7 = .ok (.getfield 26, 3) := by decide +kernel
theorem dX2_requireSafe_10 : decode cX2_requireSafe 10 = .ok (.invokevirtual 105, 3) := by decide +kernel
theorem dX2_requireSafe_13 : decode cX2_requireSafe 13 = .ok (.ifCond .ne 13, 3) := by decide +kernel
theorem dX2_requireSafe_16 : decode cX2_requireSafe 16 = .ok (.new 91, 3) := by decide +kernel
theorem dX2_requireSafe_19 : decode cX2_requireSafe 19 = .ok (.dup, 1) := by decide +kernel
theorem dX2_requireSafe_20 : decode cX2_requireSafe 20 = .ok (.ldc 155, 2) := by decide +kernel
theorem dX2_requireSafe_22 : decode cX2_requireSafe 22 = .ok (.invokespecial 95, 3) := by decide +kernel
theorem dX2_requireSafe_25 : decode cX2_requireSafe 25 = .ok (.athrow, 1) := by decide +kernel
theorem dX2_requireSafe_26 : decode cX2_requireSafe 26 = .ok (.return_, 1) := by decide +kernel
theorem dX2_requireNoLoad_0 : decode cX2_requireNoLoad 0 = .ok (.aload_n 0, 1) := by decide +kernel
theorem dX2_requireNoLoad_1 : decode cX2_requireNoLoad 1 = .ok (.getfield 48, 3) := by decide +kernel
theorem dX2_requireNoLoad_4 : decode cX2_requireNoLoad 4 = .ok (.ifCond .le 13, 3) := by decide +kernel
theorem dX2_requireNoLoad_7 : decode cX2_requireNoLoad 7 = .ok (.new 91, 3) := by decide +kernel
theorem dX2_requireNoLoad_10 : decode cX2_requireNoLoad 10 = .ok (.dup, 1) := by decide +kernel
theorem dX2_requireNoLoad_11 : decode cX2_requireNoLoad 11 = .ok (.ldc 157, 2) := by decide +kernel
theorem dX2_requireNoLoad_13 : decode cX2_requireNoLoad 13 = .ok (.invokespecial 95, 3) := by decide +kernel
theorem dX2_requireNoLoad_16 : decode cX2_requireNoLoad 16 = .ok (.athrow, 1) := by decide +kernel
theorem dX2_requireNoLoad_17 : decode cX2_requireNoLoad 17 = .ok (.return_, 1) := by decide +kernel
set_option maxRecDepth 20000 in
theorem ggX2_requireSide_X2_isWithin : GoodIn wsX2_requireSide wsX2_isWithin := goodIn_r _ [6] (by decide +kernel) (by decide +kernel)
set_option maxRecDepth 20000 in
theorem gX2_requireSide_X2_isWithin : GoodIn wsX2_requireSide (va_wsS RX2 30 yX2_isWithin wsX2_isWithin) := goodIn_app (goodIn_of _ (by decide +kernel)) ggX2_requireSide_X2_isWithin
theorem dX2_requireSide_0 : decode cX2_requireSide 0 = .ok (.iload_n 0, 1) := by decide +kernel
theorem dX2_requireSide_1 : decode cX2_requireSide 1 = .ok (.iconst 0, 1) := by decide +kernel
theorem dX2_requireSide_2 : decode cX2_requireSide 2 = .ok (.iconst 3, 1) := by decide +kernel
theorem dX2_requireSide_3 : decode cX2_requireSide 3 = .ok (.invokestatic 30, 3) := by decide +kernel
theorem dX2_requireSide_6 : decode cX2_requireSide 6 = .ok (.ifCond .ne 13, 3) := by decide +kernel
theorem dX2_requireSide_9 : decode cX2_requireSide 9 = .ok (.new 159, 3) := by decide +kernel
theorem dX2_requireSide_12 : decode cX2_requireSide 12 = .ok (.dup, 1) := by decide +kernel
theorem dX2_requireSide_13 : decode cX2_requireSide 13 = .ok (.ldc 161, 2) := by decide +kernel
theorem dX2_requireSide_15 : decode cX2_requireSide 15 = .ok (.invokespecial 163, 3) := by decide +kernel
theorem dX2_requireSide_18 : decode cX2_requireSide 18 = .ok (.athrow, 1) := by decide +kernel
theorem dX2_requireSide_19 : decode cX2_requireSide 19 = .ok (.return_, 1) := by decide +kernel
set_option maxRecDepth 20000 in
theorem ggX2_requireDirection_X2_isWithin : GoodIn wsX2_requireDirection wsX2_isWithin := goodIn_r _ [6] (by decide +kernel) (by decide +kernel)
set_option maxRecDepth 20000 in
theorem gX2_requireDirection_X2_isWithin : GoodIn wsX2_requireDirection (va_wsS RX2 30 yX2_isWithin wsX2_isWithin) := goodIn_app (goodIn_of _ (by decide +kernel)) ggX2_requireDirection_X2_isWithin
theorem dX2_requireDirection_0 : decode cX2_requireDirection 0 = .ok (.iload_n 0, 1) := by decide +kernel
theorem dX2_requireDirection_1 : decode cX2_requireDirection 1 = .ok (.iconst 0, 1) := by decide +kernel
theorem dX2_requireDirection_2 : decode cX2_requireDirection 2 = .ok (.bipush 7, 2) := by decide +kernel
theorem dX2_requireDirection_4 : decode cX2_requireDirection 4 = .ok (.invokestatic 30, 3) := by decide +kernel
theorem dX2_requireDirection_7 : decode cX2_requireDirection 7 = .ok (.ifCond .ne 13, 3) := by decide +kernel
theorem dX2_requireDirection_10 : decode cX2_requireDirection 10 = .ok (.new 159, 3) := by decide +kernel
theorem dX2_requireDirection_13 : decode cX2_requireDirection 13 = .ok (.dup, 1) := by decide +kernel
theorem dX2_requireDirection_14 : decode cX2_requireDirection 14 = .ok (.ldc 164, 2) := by decide +kernel
theorem dX2_requireDirection_16 : decode cX2_requireDirection 16 = .ok (.invokespecial 163, 3) := by decide +kernel
theorem dX2_requireDirection_19 : decode cX2_requireDirection 19 = .ok (.athrow, 1) := by decide +kernel
theorem dX2_requireDirection_20 : decode cX2_requireDirection 20 = .ok (.return_, 1) := by decide +kernel
set_option maxRecDepth 20000 in
theorem ggX2_requireLoad_X2_isWithin : GoodIn wsX2_requireLoad wsX2_isWithin := goodIn_r _ [6] (by decide +kernel) (by decide +kernel)
set_option maxRecDepth 20000 in
theorem gX2_requireLoad_X2_isWithin : GoodIn wsX2_requireLoad (va_wsS RX2 30 yX2_isWithin wsX2_isWithin) := goodIn_app (goodIn_of _ (by decide +kernel)) ggX2_requireLoad_X2_isWithin
theorem dX2_requireLoad_0 : decode cX2_requireLoad 0 = .ok (.iload_n 0, 1) := by decide +kernel
theorem dX2_requireLoad_1 : decode cX2_requireLoad 1 = .ok (.iconst 0, 1) := by decide +kernel
theorem dX2_requireLoad_2 : decode cX2_requireLoad 2 = .ok (.bipush 60, 2) := by decide +kernel
theorem dX2_requireLoad_4 : decode cX2_requireLoad 4 = .ok (.invokestatic 30, 3) := by decide +kernel
theorem dX2_requireLoad_7 : decode cX2_requireLoad 7 = .ok (.ifCond .ne 13, 3) := by decide +kernel
theorem dX2_requireLoad_10 : decode cX2_requireLoad 10 = .ok (.new 34, 3) := by decide +kernel
theorem dX2_requireLoad_13 : decode cX2_requireLoad 13 = .ok (.dup, 1) := by decide +kernel
theorem dX2_requireLoad_14 : decode cX2_requireLoad 14 = .ok (.ldc 166, 2) := by decide +kernel
theorem dX2_requireLoad_16 : decode cX2_requireLoad 16 = .ok (.invokespecial 38, 3) := by decide +kernel
theorem dX2_requireLoad_19 : decode cX2_requireLoad 19 = .ok (.athrow, 1) := by decide +kernel
theorem dX2_requireLoad_20 : decode cX2_requireLoad 20 = .ok (.return_, 1) := by decide +kernel
set_option maxRecDepth 20000 in
theorem ggX2_requireReach_X2_isReach : GoodIn wsX2_requireReach wsX2_isReach := goodIn_r _ [6, 7, 8, 5, 9] (by decide +kernel) (by decide +kernel)
set_option maxRecDepth 20000 in
theorem gX2_requireReach_X2_isReach : GoodIn wsX2_requireReach (va_wsS RX2 113 yX2_isReach wsX2_isReach) := goodIn_app (goodIn_of _ (by decide +kernel)) ggX2_requireReach_X2_isReach
theorem dX2_requireReach_0 : decode cX2_requireReach 0 = .ok (.iload_n 0, 1) := by decide +kernel
theorem dX2_requireReach_1 : decode cX2_requireReach 1 = .ok (.invokestatic 113, 3) := by decide +kernel
theorem dX2_requireReach_4 : decode cX2_requireReach 4 = .ok (.ifCond .ne 13, 3) := by decide +kernel
theorem dX2_requireReach_7 : decode cX2_requireReach 7 = .ok (.new 34, 3) := by decide +kernel
theorem dX2_requireReach_10 : decode cX2_requireReach 10 = .ok (.dup, 1) := by decide +kernel
theorem dX2_requireReach_11 : decode cX2_requireReach 11 = .ok (.ldc 168, 2) := by decide +kernel
theorem dX2_requireReach_13 : decode cX2_requireReach 13 = .ok (.invokespecial 38, 3) := by decide +kernel
theorem dX2_requireReach_16 : decode cX2_requireReach 16 = .ok (.athrow, 1) := by decide +kernel
theorem dX2_requireReach_17 : decode cX2_requireReach 17 = .ok (.return_, 1) := by decide +kernel
set_option maxRecDepth 20000 in
theorem ggX2_isReach_X2_isWithin : GoodIn wsX2_isReach wsX2_isWithin := goodIn_r _ [4] (by decide +kernel) (by decide +kernel)
set_option maxRecDepth 20000 in
theorem gX2_isReach_X2_isWithin : GoodIn wsX2_isReach (va_wsS RX2 30 yX2_isWithin wsX2_isWithin) := goodIn_app (goodIn_of _ (by decide +kernel)) ggX2_isReach_X2_isWithin
theorem dX2_isReach_0 : decode cX2_isReach 0 = .ok (.iload_n 0, 1) := by decide +kernel
theorem dX2_isReach_1 : decode cX2_isReach 1 = .ok (.iconst 3, 1) := by decide +kernel
theorem dX2_isReach_2 : decode cX2_isReach 2 = .ok (.bipush 30, 2) := by decide +kernel
theorem dX2_isReach_4 : decode cX2_isReach 4 = .ok (.invokestatic 30, 3) := by decide +kernel
theorem dX2_isReach_7 : decode cX2_isReach 7 = .ok (.ireturn, 1) := by decide +kernel
theorem dX2_isWithin_0 : decode cX2_isWithin 0 = .ok (.iload_n 0, 1) := by decide +kernel
theorem dX2_isWithin_1 : decode cX2_isWithin 1 = .ok (.iload_n 1, 1) := by decide +kernel
theorem dX2_isWithin_2 : decode cX2_isWithin 2 = .ok (.if_icmp .lt 12, 3) := by decide +kernel
theorem dX2_isWithin_5 : decode cX2_isWithin 5 = .ok (.iload_n 0, 1) := by decide +kernel
theorem dX2_isWithin_6 : decode cX2_isWithin 6 = .ok (.iload_n 2, 1) := by decide +kernel
theorem dX2_isWithin_7 : decode cX2_isWithin 7 = .ok (.if_icmp .gt 7, 3) := by decide +kernel
theorem dX2_isWithin_10 : decode cX2_isWithin 10 = .ok (.iconst 1, 1) := by decide +kernel
theorem dX2_isWithin_11 : decode cX2_isWithin 11 = .ok (.goto 4, 3) := by decide +kernel
theorem dX2_isWithin_14 : decode cX2_isWithin 14 = .ok (.iconst 0, 1) := by decide +kernel
theorem dX2_isWithin_15 : decode cX2_isWithin 15 = .ok (.ireturn, 1) := by decide +kernel
theorem dX2_turned_0 : decode cX2_turned 0 = .ok (.iload_n 0, 1) := by decide +kernel
theorem dX2_turned_1 : decode cX2_turned 1 = .ok (.iload_n 1, 1) := by decide +kernel
theorem dX2_turned_2 : decode cX2_turned 2 = .ok (.iadd, 1) := by decide +kernel
theorem dX2_turned_3 : decode cX2_turned 3 = .ok (.bipush 8, 2) := by decide +kernel
theorem dX2_turned_5 : decode cX2_turned 5 = .ok (.iadd, 1) := by decide +kernel
theorem dX2_turned_6 : decode cX2_turned 6 = .ok (.bipush 8, 2) := by decide +kernel
theorem dX2_turned_8 : decode cX2_turned 8 = .ok (.irem, 1) := by decide +kernel
theorem dX2_turned_9 : decode cX2_turned 9 = .ok (.ireturn, 1) := by decide +kernel
