set_option maxRecDepth 20000 in
theorem ggL_setPlates_X2_setPlates : GoodIn wsL_setPlates wsX2_setPlates := goodIn_ca (goodIn_ca (goodIn_r _ [7, 8, 9, 10, 11, 12, 13, 14, 15, 6, 16, 17, 18, 19, 20, 21, 22, 23, 24, 25, 26, 27, 28, 29, 30, 31, 32, 33, 34, 35, 36, 37, 38, 39, 40, 41, 42, 43, 44, 45, 46, 47, 48, 49, 50, 51, 52, 53, 54, 55, 56, 57, 58, 59, 60, 61, 62, 63, 64, 65, 66, 67, 68, 69, 70, 71] (by decide +kernel) (by decide +kernel)) (goodIn_sub (fun _ h => List.mem_cons_of_mem _ (List.mem_append_left _ (List.mem_append_right _ h))) (by decide +kernel))) (goodIn_sub (fun _ h => List.mem_cons_of_mem _ (List.mem_append_right _ h)) (by decide +kernel))
set_option maxRecDepth 20000 in
theorem gL_setPlates_X2_setPlates : GoodIn wsL_setPlates (wsV RL 7 RX2 yX2_setPlates wsX2_setPlates) := goodIn_app (goodIn_of _ (by decide +kernel)) ggL_setPlates_X2_setPlates
theorem dL_setPlates_0 : decode cL_setPlates 0 = .ok (.aload_n 2, 1) := by decide +kernel
theorem dL_setPlates_1 : decode cL_setPlates 1 = .ok (.iconst 0, 1) := by decide +kernel
theorem dL_setPlates_2 : decode cL_setPlates 2 = .ok (.aload_n 0, 1) := by decide +kernel
theorem dL_setPlates_3 : decode cL_setPlates 3 = .ok (.iload_n 1, 1) := by decide +kernel
theorem dL_setPlates_4 : decode cL_setPlates 4 = .ok (.invokevirtual 7, 3) := by decide +kernel
theorem dL_setPlates_7 : decode cL_setPlates 7 = .ok (.i2l, 1) := by decide +kernel
theorem dL_setPlates_8 : decode cL_setPlates 8 = .ok (.lastore, 1) := by decide +kernel
theorem dL_setPlates_9 : decode cL_setPlates 9 = .ok (.goto 9, 3) := by decide +kernel
theorem dL_setPlates_12 : decode cL_setPlates 12 = .ok (.astore_n 3, 1) := by decide +kernel
theorem dL_setPlates_13 : decode cL_setPlates 13 = .ok (.iconst 1, 1) := by decide +kernel
theorem dL_setPlates_14 : decode cL_setPlates 14 = .ok (.ireturn, 1) := by decide +kernel
theorem dL_setPlates_15 : decode cL_setPlates 15 = .ok (.astore_n 3, 1) := by decide +kernel
theorem dL_setPlates_16 : decode cL_setPlates 16 = .ok (.iconst 2, 1) := by decide +kernel
theorem dL_setPlates_17 : decode cL_setPlates 17 = .ok (.ireturn, 1) := by decide +kernel
theorem dL_setPlates_18 : decode cL_setPlates 18 = .ok (.iconst 0, 1) := by decide +kernel
theorem dL_setPlates_19 : decode cL_setPlates 19 = .ok (.ireturn, 1) := by decide +kernel
set_option maxRecDepth 20000 in
theorem ggL_setOutrigger_X2_setOutrigger : GoodIn wsL_setOutrigger wsX2_setOutrigger := goodIn_ca (goodIn_ca (goodIn_ca (goodIn_r _ [8, 9, 10, 11, 12, 13, 14, 15, 7, 16, 17, 18, 19, 20, 21, 22, 23, 24, 25, 26, 27, 28, 29, 30, 31, 32, 33, 34, 35, 36, 37, 38, 39, 40, 41, 42, 43, 44, 45, 46, 47, 48, 49, 50, 51, 52, 53, 54, 55, 56, 57, 58, 59, 60, 61, 62, 63, 64, 65, 66, 67, 68, 69, 70, 71, 72, 73, 74, 75, 76, 77, 78, 79, 80, 81, 82] (by decide +kernel) (by decide +kernel)) (goodIn_sub (fun _ h => List.mem_cons_of_mem _ (List.mem_append_left _ (List.mem_append_left _ (List.mem_append_right _ h)))) (by decide +kernel))) (goodIn_sub (fun _ h => List.mem_cons_of_mem _ (List.mem_append_left _ (List.mem_append_right _ h))) (by decide +kernel))) (goodIn_sub (fun _ h => List.mem_cons_of_mem _ (List.mem_append_right _ h)) (by decide +kernel))
set_option maxRecDepth 20000 in
theorem gL_setOutrigger_X2_setOutrigger : GoodIn wsL_setOutrigger (wsV RL 17 RX2 yX2_setOutrigger wsX2_setOutrigger) := goodIn_app (goodIn_of _ (by decide +kernel)) ggL_setOutrigger_X2_setOutrigger
theorem dL_setOutrigger_0 : decode cL_setOutrigger 0 = .ok (.aload_n 3, 1) := by decide +kernel
theorem dL_setOutrigger_1 : decode cL_setOutrigger 1 = .ok (.iconst 0, 1) := by decide +kernel
theorem dL_setOutrigger_2 : decode cL_setOutrigger 2 = .ok (.aload_n 0, 1) := by decide +kernel
theorem dL_setOutrigger_3 : decode cL_setOutrigger 3 = .ok (.iload_n 1, 1) := by decide +kernel
theorem dL_setOutrigger_4 : decode cL_setOutrigger 4 = .ok (.iload_n 2, 1) := by decide +kernel
theorem dL_setOutrigger_5 : decode cL_setOutrigger 5 = .ok (.invokevirtual 17, 3) := by decide +kernel
theorem dL_setOutrigger_8 : decode cL_setOutrigger 8 = .ok (.i2l, 1) := by decide +kernel
theorem dL_setOutrigger_9 : decode cL_setOutrigger 9 = .ok (.lastore, 1) := by decide +kernel
theorem dL_setOutrigger_10 : decode cL_setOutrigger 10 = .ok (.goto 15, 3) := by decide +kernel
theorem dL_setOutrigger_13 : decode cL_setOutrigger 13 = .ok (.astore 4, 2) := by decide +kernel
theorem dL_setOutrigger_15 : decode cL_setOutrigger 15 = .ok (.iconst 1, 1) := by decide +kernel
theorem dL_setOutrigger_16 : decode cL_setOutrigger 16 = .ok (.ireturn, 1) := by decide +kernel
theorem dL_setOutrigger_17 : decode cL_setOutrigger 17 = .ok (.astore 4, 2) := by decide +kernel
theorem dL_setOutrigger_19 : decode cL_setOutrigger 19 = .ok (.iconst 2, 1) := by decide +kernel
theorem dL_setOutrigger_20 : decode cL_setOutrigger 20 = .ok (.ireturn, 1) := by decide +kernel
theorem dL_setOutrigger_21 : decode cL_setOutrigger 21 = .ok (.astore 4, 2) := by decide +kernel
theorem dL_setOutrigger_23 : decode cL_setOutrigger 23 = .ok (.iconst 3, 1) := by decide +kernel
theorem dL_setOutrigger_24 : decode cL_setOutrigger 24 = .ok (.ireturn, 1) := by decide +kernel
theorem dL_setOutrigger_25 : decode cL_setOutrigger 25 = .ok (.iconst 0, 1) := by decide +kernel
theorem dL_setOutrigger_26 : decode cL_setOutrigger 26 = .ok (.ireturn, 1) := by decide +kernel
set_option maxRecDepth 20000 in
theorem ggL_setLimit_X2_setLimit : GoodIn wsL_setLimit wsX2_setLimit := goodIn_ca (goodIn_ca (goodIn_r _ [7, 8, 9, 10, 11, 12, 13, 14, 6, 15, 16, 17, 18, 19, 20, 21, 22, 23, 24, 25, 26, 27, 28, 29, 30, 31, 32, 33, 34, 35, 36, 37, 38, 39, 40, 41, 42, 43, 44, 45, 46, 47, 48, 49, 50, 51, 52, 53, 54, 55, 56, 57, 58, 59, 60, 61, 62, 63, 64, 65, 66, 67, 68, 69, 70, 71, 72, 73, 74, 75, 76, 77, 78] (by decide +kernel) (by decide +kernel)) (goodIn_sub (fun _ h => List.mem_cons_of_mem _ (List.mem_append_left _ (List.mem_append_right _ h))) (by decide +kernel))) (goodIn_sub (fun _ h => List.mem_cons_of_mem _ (List.mem_append_right _ h)) (by decide +kernel))
set_option maxRecDepth 20000 in
theorem gL_setLimit_X2_setLimit : GoodIn wsL_setLimit (wsV RL 23 RX2 yX2_setLimit wsX2_setLimit) := goodIn_app (goodIn_of _ (by decide +kernel)) ggL_setLimit_X2_setLimit
theorem dL_setLimit_0 : decode cL_setLimit 0 = .ok (.aload_n 3, 1) := by decide +kernel
theorem dL_setLimit_1 : decode cL_setLimit 1 = .ok (.iconst 0, 1) := by decide +kernel
theorem dL_setLimit_2 : decode cL_setLimit 2 = .ok (.aload_n 0, 1) := by decide +kernel
theorem dL_setLimit_3 : decode cL_setLimit 3 = .ok (.iload_n 1, 1) := by decide +kernel
theorem dL_setLimit_4 : decode cL_setLimit 4 = .ok (.iload_n 2, 1) := by decide +kernel
theorem dL_setLimit_5 : decode cL_setLimit 5 = .ok (.invokevirtual 23, 3) := by decide +kernel
theorem dL_setLimit_8 : decode cL_setLimit 8 = .ok (.i2l, 1) := by decide +kernel
theorem dL_setLimit_9 : decode cL_setLimit 9 = .ok (.lastore, 1) := by decide +kernel
theorem dL_setLimit_10 : decode cL_setLimit 10 = .ok (.goto 11, 3) := by decide +kernel
theorem dL_setLimit_13 : decode cL_setLimit 13 = .ok (.astore 4, 2) := by decide +kernel
theorem dL_setLimit_15 : decode cL_setLimit 15 = .ok (.iconst 1, 1) := by decide +kernel
theorem dL_setLimit_16 : decode cL_setLimit 16 = .ok (.ireturn, 1) := by decide +kernel
theorem dL_setLimit_17 : decode cL_setLimit 17 = .ok (.astore 4, 2) := by decide +kernel
theorem dL_setLimit_19 : decode cL_setLimit 19 = .ok (.iconst 2, 1) := by decide +kernel
theorem dL_setLimit_20 : decode cL_setLimit 20 = .ok (.ireturn, 1) := by decide +kernel
theorem dL_setLimit_21 : decode cL_setLimit 21 = .ok (.iconst 0, 1) := by decide +kernel
theorem dL_setLimit_22 : decode cL_setLimit 22 = .ok (.ireturn, 1) := by decide +kernel
set_option maxRecDepth 20000 in
theorem ggL_lift_X2_lift : GoodIn wsL_lift wsX2_lift := goodIn_ca (goodIn_ca (goodIn_r _ [7, 8, 9, 10, 11, 12, 13, 14, 15, 6, 16, 17, 18, 19, 20, 21, 22, 23, 24, 25, 26, 27, 28, 29, 30, 31, 32, 33, 34, 35, 36, 37, 38, 39, 40, 41, 42, 43, 44, 45, 46, 47, 48, 49, 50, 51, 52, 53, 54, 55, 56, 57, 58, 59, 60, 61, 62, 63] (by decide +kernel) (by decide +kernel)) (goodIn_sub (fun _ h => List.mem_cons_of_mem _ (List.mem_append_left _ (List.mem_append_right _ h))) (by decide +kernel))) (goodIn_sub (fun _ h => List.mem_cons_of_mem _ (List.mem_append_right _ h)) (by decide +kernel))
set_option maxRecDepth 20000 in
theorem gL_lift_X2_lift : GoodIn wsL_lift (wsV RL 26 RX2 yX2_lift wsX2_lift) := goodIn_app (goodIn_of _ (by decide +kernel)) ggL_lift_X2_lift
theorem dL_lift_0 : decode cL_lift 0 = .ok (.aload_n 2, 1) := by decide +kernel
theorem dL_lift_1 : decode cL_lift 1 = .ok (.iconst 0, 1) := by decide +kernel
theorem dL_lift_2 : decode cL_lift 2 = .ok (.aload_n 0, 1) := by decide +kernel
theorem dL_lift_3 : decode cL_lift 3 = .ok (.iload_n 1, 1) := by decide +kernel
theorem dL_lift_4 : decode cL_lift 4 = .ok (.invokevirtual 26, 3) := by decide +kernel
theorem dL_lift_7 : decode cL_lift 7 = .ok (.i2l, 1) := by decide +kernel
theorem dL_lift_8 : decode cL_lift 8 = .ok (.lastore, 1) := by decide +kernel
theorem dL_lift_9 : decode cL_lift 9 = .ok (.goto 9, 3) := by decide +kernel
theorem dL_lift_12 : decode cL_lift 12 = .ok (.astore_n 3, 1) := by decide +kernel
theorem dL_lift_13 : decode cL_lift 13 = .ok (.iconst 1, 1) := by decide +kernel
theorem dL_lift_14 : decode cL_lift 14 = .ok (.ireturn, 1) := by decide +kernel
theorem dL_lift_15 : decode cL_lift 15 = .ok (.astore_n 3, 1) := by decide +kernel
theorem dL_lift_16 : decode cL_lift 16 = .ok (.iconst 2, 1) := by decide +kernel
theorem dL_lift_17 : decode cL_lift 17 = .ok (.ireturn, 1) := by decide +kernel
theorem dL_lift_18 : decode cL_lift 18 = .ok (.iconst 0, 1) := by decide +kernel
theorem dL_lift_19 : decode cL_lift 19 = .ok (.ireturn, 1) := by decide +kernel
set_option maxRecDepth 20000 in
theorem ggL_setDown_X2_setDown : GoodIn wsL_setDown wsX2_setDown := goodIn_ca (goodIn_r _ [6, 7, 8, 9, 10, 11, 12, 13, 5, 14, 15, 16, 17, 18, 19, 20, 21, 22, 23, 24, 25, 26, 27, 28, 29, 30, 31, 32, 33, 34, 35, 36, 37, 38, 39, 40, 41, 42, 43, 44, 45, 46, 47, 48, 49, 50, 51] (by decide +kernel) (by decide +kernel)) (goodIn_sub (fun _ h => List.mem_cons_of_mem _ (List.mem_append_right _ h)) (by decide +kernel))
set_option maxRecDepth 20000 in
theorem gL_setDown_X2_setDown : GoodIn wsL_setDown (wsV RL 29 RX2 yX2_setDown wsX2_setDown) := goodIn_app (goodIn_of _ (by decide +kernel)) ggL_setDown_X2_setDown
theorem dL_setDown_0 : decode cL_setDown 0 = .ok (.aload_n 1, 1) := by decide +kernel
theorem dL_setDown_1 : decode cL_setDown 1 = .ok (.iconst 0, 1) := by decide +kernel
theorem dL_setDown_2 : decode cL_setDown 2 = .ok (.aload_n 0, 1) := by decide +kernel
theorem dL_setDown_3 : decode cL_setDown 3 = .ok (.invokevirtual 29, 3) := by decide +kernel
theorem dL_setDown_6 : decode cL_setDown 6 = .ok (.i2l, 1) := by decide +kernel
theorem dL_setDown_7 : decode cL_setDown 7 = .ok (.lastore, 1) := by decide +kernel
theorem dL_setDown_8 : decode cL_setDown 8 = .ok (.goto 6, 3) := by decide +kernel
theorem dL_setDown_11 : decode cL_setDown 11 = .ok (.astore_n 2, 1) := by decide +kernel
theorem dL_setDown_12 : decode cL_setDown 12 = .ok (.iconst 1, 1) := by decide +kernel
theorem dL_setDown_13 : decode cL_setDown 13 = .ok (.ireturn, 1) := by decide +kernel
theorem dL_setDown_14 : decode cL_setDown 14 = .ok (.iconst 0, 1) := by decide +kernel
theorem dL_setDown_15 : decode cL_setDown 15 = .ok (.ireturn, 1) := by decide +kernel
set_option maxRecDepth 20000 in
theorem ggL_swing_X2_swing : GoodIn wsL_swing wsX2_swing := goodIn_ca (goodIn_r _ [6, 7, 8, 9, 10, 11, 12, 13, 14, 5, 15, 16, 17, 18, 19, 20, 21, 22, 23, 24, 25, 26, 27, 28, 29, 30, 31, 32, 33, 34, 35, 36, 37, 38, 39, 40, 41, 42, 43, 44, 45, 46, 47, 48, 49, 50, 51, 52, 53, 54, 55, 56, 57, 58] (by decide +kernel) (by decide +kernel)) (goodIn_sub (fun _ h => List.mem_cons_of_mem _ (List.mem_append_right _ h)) (by decide +kernel))
set_option maxRecDepth 20000 in
theorem gL_swing_X2_swing : GoodIn wsL_swing (wsV RL 33 RX2 yX2_swing wsX2_swing) := goodIn_app (goodIn_of _ (by decide +kernel)) ggL_swing_X2_swing
theorem dL_swing_0 : decode cL_swing 0 = .ok (.aload_n 3, 1) := by decide +kernel
theorem dL_swing_1 : decode cL_swing 1 = .ok (.iconst 0, 1) := by decide +kernel
theorem dL_swing_2 : decode cL_swing 2 = .ok (.aload_n 0, 1) := by decide +kernel
theorem dL_swing_3 : decode cL_swing 3 = .ok (.iload_n 1, 1) := by decide +kernel
theorem dL_swing_4 : decode cL_swing 4 = .ok (.iload_n 2, 1) := by decide +kernel
theorem dL_swing_5 : decode cL_swing 5 = .ok (.invokevirtual 33, 3) := by decide +kernel
theorem dL_swing_8 : decode cL_swing 8 = .ok (.i2l, 1) := by decide +kernel
theorem dL_swing_9 : decode cL_swing 9 = .ok (.lastore, 1) := by decide +kernel
theorem dL_swing_10 : decode cL_swing 10 = .ok (.goto 7, 3) := by decide +kernel
theorem dL_swing_13 : decode cL_swing 13 = .ok (.astore 4, 2) := by decide +kernel
theorem dL_swing_15 : decode cL_swing 15 = .ok (.iconst 1, 1) := by decide +kernel
theorem dL_swing_16 : decode cL_swing 16 = .ok (.ireturn, 1) := by decide +kernel
theorem dL_swing_17 : decode cL_swing 17 = .ok (.iconst 0, 1) := by decide +kernel
theorem dL_swing_18 : decode cL_swing 18 = .ok (.ireturn, 1) := by decide +kernel
set_option maxRecDepth 20000 in
theorem ggL_stretch_X2_stretch : GoodIn wsL_stretch wsX2_stretch := goodIn_ca (goodIn_r _ [6, 7, 8, 9, 10, 11, 12, 13, 14, 5, 15, 16, 17, 18, 19, 20, 21, 22, 23, 24, 25, 26, 27, 28, 29, 30, 31, 32, 33, 34, 35, 36, 37, 38, 39, 40, 41, 42, 43, 44, 45, 46, 47, 48, 49, 50, 51, 52, 53, 54, 55, 56, 57, 58] (by decide +kernel) (by decide +kernel)) (goodIn_sub (fun _ h => List.mem_cons_of_mem _ (List.mem_append_right _ h)) (by decide +kernel))
set_option maxRecDepth 20000 in
theorem gL_stretch_X2_stretch : GoodIn wsL_stretch (wsV RL 37 RX2 yX2_stretch wsX2_stretch) := goodIn_app (goodIn_of _ (by decide +kernel)) ggL_stretch_X2_stretch
theorem dL_stretch_0 : decode cL_stretch 0 = .ok (.aload_n 3, 1) := by decide +kernel
theorem dL_stretch_1 : decode cL_stretch 1 = .ok (.iconst 0, 1) := by decide +kernel
theorem dL_stretch_2 : decode cL_stretch 2 = .ok (.aload_n 0, 1) := by decide +kernel
theorem dL_stretch_3 : decode cL_stretch 3 = .ok (.iload_n 1, 1) := by decide +kernel
theorem dL_stretch_4 : decode cL_stretch 4 = .ok (.iload_n 2, 1) := by decide +kernel
theorem dL_stretch_5 : decode cL_stretch 5 = .ok (.invokevirtual 37, 3) := by decide +kernel
theorem dL_stretch_8 : decode cL_stretch 8 = .ok (.i2l, 1) := by decide +kernel
theorem dL_stretch_9 : decode cL_stretch 9 = .ok (.lastore, 1) := by decide +kernel
theorem dL_stretch_10 : decode cL_stretch 10 = .ok (.goto 7, 3) := by decide +kernel
theorem dL_stretch_13 : decode cL_stretch 13 = .ok (.astore 4, 2) := by decide +kernel
theorem dL_stretch_15 : decode cL_stretch 15 = .ok (.iconst 1, 1) := by decide +kernel
theorem dL_stretch_16 : decode cL_stretch 16 = .ok (.ireturn, 1) := by decide +kernel
theorem dL_stretch_17 : decode cL_stretch 17 = .ok (.iconst 0, 1) := by decide +kernel
theorem dL_stretch_18 : decode cL_stretch 18 = .ok (.ireturn, 1) := by decide +kernel
set_option maxRecDepth 20000 in
theorem ggL_outrigger_X2_outrigger : GoodIn wsL_outrigger wsX2_outrigger := goodIn_ca (goodIn_r _ [6, 7, 8, 9, 5, 10, 11, 12, 13, 14, 15, 16, 17, 18, 19, 20, 21, 22, 23, 24, 25, 26, 27, 28, 29, 30, 31, 32, 33] (by decide +kernel) (by decide +kernel)) (goodIn_sub (fun _ h => List.mem_cons_of_mem _ (List.mem_append_right _ h)) (by decide +kernel))
set_option maxRecDepth 20000 in
theorem gL_outrigger_X2_outrigger : GoodIn wsL_outrigger (wsV RL 40 RX2 yX2_outrigger wsX2_outrigger) := goodIn_app (goodIn_of _ (by decide +kernel)) ggL_outrigger_X2_outrigger
theorem dL_outrigger_0 : decode cL_outrigger 0 = .ok (.aload_n 2, 1) := by decide +kernel
theorem dL_outrigger_1 : decode cL_outrigger 1 = .ok (.iconst 0, 1) := by decide +kernel
theorem dL_outrigger_2 : decode cL_outrigger 2 = .ok (.aload_n 0, 1) := by decide +kernel
theorem dL_outrigger_3 : decode cL_outrigger 3 = .ok (.iload_n 1, 1) := by decide +kernel
theorem dL_outrigger_4 : decode cL_outrigger 4 = .ok (.invokevirtual 40, 3) := by decide +kernel
theorem dL_outrigger_7 : decode cL_outrigger 7 = .ok (.i2l, 1) := by decide +kernel
theorem dL_outrigger_8 : decode cL_outrigger 8 = .ok (.lastore, 1) := by decide +kernel
theorem dL_outrigger_9 : decode cL_outrigger 9 = .ok (.goto 6, 3) := by decide +kernel
theorem dL_outrigger_12 : decode cL_outrigger 12 = .ok (.astore_n 3, 1) := by decide +kernel
theorem dL_outrigger_13 : decode cL_outrigger 13 = .ok (.iconst 1, 1) := by decide +kernel
theorem dL_outrigger_14 : decode cL_outrigger 14 = .ok (.ireturn, 1) := by decide +kernel
theorem dL_outrigger_15 : decode cL_outrigger 15 = .ok (.iconst 0, 1) := by decide +kernel
theorem dL_outrigger_16 : decode cL_outrigger 16 = .ok (.ireturn, 1) := by decide +kernel
set_option maxRecDepth 20000 in
theorem ggL_limitAt_X2_limitAt : GoodIn wsL_limitAt wsX2_limitAt := goodIn_ca (goodIn_r _ [6, 7, 8, 9, 5, 10, 11, 12, 13, 14, 15, 16, 17, 18, 19, 20, 21, 22, 23, 24, 25, 26, 27, 28, 29, 30, 31, 32, 33, 34, 35, 36] (by decide +kernel) (by decide +kernel)) (goodIn_sub (fun _ h => List.mem_cons_of_mem _ (List.mem_append_right _ h)) (by decide +kernel))
set_option maxRecDepth 20000 in
theorem gL_limitAt_X2_limitAt : GoodIn wsL_limitAt (wsV RL 43 RX2 yX2_limitAt wsX2_limitAt) := goodIn_app (goodIn_of _ (by decide +kernel)) ggL_limitAt_X2_limitAt
theorem dL_limitAt_0 : decode cL_limitAt 0 = .ok (.aload_n 2, 1) := by decide +kernel
theorem dL_limitAt_1 : decode cL_limitAt 1 = .ok (.iconst 0, 1) := by decide +kernel
theorem dL_limitAt_2 : decode cL_limitAt 2 = .ok (.aload_n 0, 1) := by decide +kernel
theorem dL_limitAt_3 : decode cL_limitAt 3 = .ok (.iload_n 1, 1) := by decide +kernel
theorem dL_limitAt_4 : decode cL_limitAt 4 = .ok (.invokevirtual 43, 3) := by decide +kernel
theorem dL_limitAt_7 : decode cL_limitAt 7 = .ok (.i2l, 1) := by decide +kernel
theorem dL_limitAt_8 : decode cL_limitAt 8 = .ok (.lastore, 1) := by decide +kernel
theorem dL_limitAt_9 : decode cL_limitAt 9 = .ok (.goto 6, 3) := by decide +kernel
theorem dL_limitAt_12 : decode cL_limitAt 12 = .ok (.astore_n 3, 1) := by decide +kernel
theorem dL_limitAt_13 : decode cL_limitAt 13 = .ok (.iconst 1, 1) := by decide +kernel
theorem dL_limitAt_14 : decode cL_limitAt 14 = .ok (.ireturn, 1) := by decide +kernel
theorem dL_limitAt_15 : decode cL_limitAt 15 = .ok (.iconst 0, 1) := by decide +kernel
theorem dL_limitAt_16 : decode cL_limitAt 16 = .ok (.ireturn, 1) := by decide +kernel
set_option maxRecDepth 20000 in
theorem ggL_strainOn_X2_strainOn : GoodIn wsL_strainOn wsX2_strainOn := goodIn_ca (goodIn_r _ [6, 7, 8, 9, 10, 11, 12, 5, 13, 14, 15, 16, 17, 18, 19, 20, 21, 22, 23, 24, 25, 26, 27, 28, 29, 30, 31, 32, 33, 34, 35, 36, 37, 38, 39, 40, 41, 42, 43, 44] (by decide +kernel) (by decide +kernel)) (goodIn_sub (fun _ h => List.mem_cons_of_mem _ (List.mem_append_right _ h)) (by decide +kernel))
set_option maxRecDepth 20000 in
theorem gL_strainOn_X2_strainOn : GoodIn wsL_strainOn (wsV RL 46 RX2 yX2_strainOn wsX2_strainOn) := goodIn_app (goodIn_of _ (by decide +kernel)) ggL_strainOn_X2_strainOn
theorem dL_strainOn_0 : decode cL_strainOn 0 = .ok (.aload_n 2, 1) := by decide +kernel
theorem dL_strainOn_1 : decode cL_strainOn 1 = .ok (.iconst 0, 1) := by decide +kernel
theorem dL_strainOn_2 : decode cL_strainOn 2 = .ok (.aload_n 0, 1) := by decide +kernel
theorem dL_strainOn_3 : decode cL_strainOn 3 = .ok (.iload_n 1, 1) := by decide +kernel
theorem dL_strainOn_4 : decode cL_strainOn 4 = .ok (.invokevirtual 46, 3) := by decide +kernel
theorem dL_strainOn_7 : decode cL_strainOn 7 = .ok (.i2l, 1) := by decide +kernel
theorem dL_strainOn_8 : decode cL_strainOn 8 = .ok (.lastore, 1) := by decide +kernel
theorem dL_strainOn_9 : decode cL_strainOn 9 = .ok (.goto 6, 3) := by decide +kernel
theorem dL_strainOn_12 : decode cL_strainOn 12 = .ok (.astore_n 3, 1) := by decide +kernel
theorem dL_strainOn_13 : decode cL_strainOn 13 = .ok (.iconst 1, 1) := by decide +kernel
theorem dL_strainOn_14 : decode cL_strainOn 14 = .ok (.ireturn, 1) := by decide +kernel
theorem dL_strainOn_15 : decode cL_strainOn 15 = .ok (.iconst 0, 1) := by decide +kernel
theorem dL_strainOn_16 : decode cL_strainOn 16 = .ok (.ireturn, 1) := by decide +kernel
set_option maxRecDepth 20000 in
theorem ggL_isSafeWith_X2_isSafeWith : GoodIn wsL_isSafeWith wsX2_isSafeWith := goodIn_ca (goodIn_ca (goodIn_r _ [7, 8, 9, 10, 6, 11, 12, 13, 14, 15, 16, 17, 18, 19, 20, 21, 22, 23, 24, 25, 26, 27, 28, 29, 30, 31, 32, 33, 34, 35, 36, 37, 38, 39, 40, 41, 42, 43, 44, 45, 46, 47, 48, 49, 50, 51, 52, 53, 54, 55, 56, 57, 58, 59, 60, 61, 62] (by decide +kernel) (by decide +kernel)) (goodIn_sub (fun _ h => List.mem_cons_of_mem _ (List.mem_append_left _ (List.mem_append_right _ h))) (by decide +kernel))) (goodIn_sub (fun _ h => List.mem_cons_of_mem _ (List.mem_append_right _ h)) (by decide +kernel))
set_option maxRecDepth 20000 in
theorem gL_isSafeWith_X2_isSafeWith : GoodIn wsL_isSafeWith (wsV RL 49 RX2 yX2_isSafeWith wsX2_isSafeWith) := goodIn_app (goodIn_of _ (by decide +kernel)) ggL_isSafeWith_X2_isSafeWith
theorem dL_isSafeWith_0 : decode cL_isSafeWith 0 = .ok (.aload 4, 2) := by decide +kernel
theorem dL_isSafeWith_2 : decode cL_isSafeWith 2 = .ok (.iconst 0, 1) := by decide +kernel
theorem dL_isSafeWith_3 : decode cL_isSafeWith 3 = .ok (.aload_n 0, 1) := by decide +kernel
theorem dL_isSafeWith_4 : decode cL_isSafeWith 4 = .ok (.iload_n 1, 1) := by decide +kernel
theorem dL_isSafeWith_5 : decode cL_isSafeWith 5 = .ok (.iload_n 2, 1) := by decide +kernel
theorem dL_isSafeWith_6 : decode cL_isSafeWith 6 = .ok (.iload_n 3, 1) := by decide +kernel
theorem dL_isSafeWith_7 : decode cL_isSafeWith 7 = .ok (.invokevirtual 49, 3) := by decide +kernel
theorem dL_isSafeWith_10 : decode cL_isSafeWith 10 = .ok (.ifCond .eq 7, 3) := by decide +kernel
theorem dL_isSafeWith_13 : decode cL_isSafeWith 13 = .ok (.lconst 1, 1) := by decide +kernel
theorem dL_isSafeWith_14 : decode cL_isSafeWith 14 = .ok (.goto 4, 3) := by decide +kernel
theorem dL_isSafeWith_17 : decode cL_isSafeWith 17 = .ok (.lconst 0, 1) := by decide +kernel
theorem dL_isSafeWith_18 : decode cL_isSafeWith 18 = .ok (.lastore, 1) := by decide +kernel
theorem dL_isSafeWith_19 : decode cL_isSafeWith 19 = .ok (.goto 11, 3) := by decide +kernel
theorem dL_isSafeWith_22 : decode cL_isSafeWith 22 = .ok (.astore 5, 2) := by decide +kernel
theorem dL_isSafeWith_24 : decode cL_isSafeWith 24 = .ok (.iconst 1, 1) := by decide +kernel
theorem dL_isSafeWith_25 : decode cL_isSafeWith 25 = .ok (.ireturn, 1) := by decide +kernel
theorem dL_isSafeWith_26 : decode cL_isSafeWith 26 = .ok (.astore 5, 2) := by decide +kernel
theorem dL_isSafeWith_28 : decode cL_isSafeWith 28 = .ok (.iconst 2, 1) := by decide +kernel
theorem dL_isSafeWith_29 : decode cL_isSafeWith 29 = .ok (.ireturn, 1) := by decide +kernel
theorem dL_isSafeWith_30 : decode cL_isSafeWith 30 = .ok (.iconst 0, 1) := by decide +kernel
theorem dL_isSafeWith_31 : decode cL_isSafeWith 31 = .ok (.ireturn, 1) := by decide +kernel
set_option maxRecDepth 20000 in
theorem ggL_farthestReach_X2_farthestReach : GoodIn wsL_farthestReach wsX2_farthestReach := goodIn_ca (goodIn_ca (goodIn_r _ [7, 8, 9, 10, 6, 11, 12, 13, 14, 15, 16, 17, 18, 19, 20, 21, 22, 23, 24, 25, 26, 27, 28, 29, 30, 31, 32, 33, 34, 35, 36, 37, 38, 39, 40, 41, 42, 43, 44, 45, 46, 47, 48, 49, 50, 51, 52, 53, 54, 55, 56] (by decide +kernel) (by decide +kernel)) (goodIn_sub (fun _ h => List.mem_cons_of_mem _ (List.mem_append_left _ (List.mem_append_right _ h))) (by decide +kernel))) (goodIn_sub (fun _ h => List.mem_cons_of_mem _ (List.mem_append_right _ h)) (by decide +kernel))
set_option maxRecDepth 20000 in
theorem gL_farthestReach_X2_farthestReach : GoodIn wsL_farthestReach (wsV RL 53 RX2 yX2_farthestReach wsX2_farthestReach) := goodIn_app (goodIn_of _ (by decide +kernel)) ggL_farthestReach_X2_farthestReach
theorem dL_farthestReach_0 : decode cL_farthestReach 0 = .ok (.aload_n 3, 1) := by decide +kernel
theorem dL_farthestReach_1 : decode cL_farthestReach 1 = .ok (.iconst 0, 1) := by decide +kernel
theorem dL_farthestReach_2 : decode cL_farthestReach 2 = .ok (.aload_n 0, 1) := by decide +kernel
theorem dL_farthestReach_3 : decode cL_farthestReach 3 = .ok (.iload_n 1, 1) := by decide +kernel
theorem dL_farthestReach_4 : decode cL_farthestReach 4 = .ok (.iload_n 2, 1) := by decide +kernel
theorem dL_farthestReach_5 : decode cL_farthestReach 5 = .ok (.invokevirtual 53, 3) := by decide +kernel
theorem dL_farthestReach_8 : decode cL_farthestReach 8 = .ok (.i2l, 1) := by decide +kernel
theorem dL_farthestReach_9 : decode cL_farthestReach 9 = .ok (.lastore, 1) := by decide +kernel
theorem dL_farthestReach_10 : decode cL_farthestReach 10 = .ok (.goto 11, 3) := by decide +kernel
theorem dL_farthestReach_13 : decode cL_farthestReach 13 = .ok (.astore 4, 2) := by decide +kernel
theorem dL_farthestReach_15 : decode cL_farthestReach 15 = .ok (.iconst 1, 1) := by decide +kernel
theorem dL_farthestReach_16 : decode cL_farthestReach 16 = .ok (.ireturn, 1) := by decide +kernel
theorem dL_farthestReach_17 : decode cL_farthestReach 17 = .ok (.astore 4, 2) := by decide +kernel
theorem dL_farthestReach_19 : decode cL_farthestReach 19 = .ok (.iconst 2, 1) := by decide +kernel
theorem dL_farthestReach_20 : decode cL_farthestReach 20 = .ok (.ireturn, 1) := by decide +kernel
theorem dL_farthestReach_21 : decode cL_farthestReach 21 = .ok (.iconst 0, 1) := by decide +kernel
theorem dL_farthestReach_22 : decode cL_farthestReach 22 = .ok (.ireturn, 1) := by decide +kernel
set_option maxRecDepth 20000 in
theorem ggL_safeDirections_X2_safeDirections : GoodIn wsL_safeDirections wsX2_safeDirections := goodIn_ca (goodIn_r _ [6, 7, 8, 9, 5, 10, 11, 12, 13, 14, 15, 16, 17, 18, 19, 20, 21, 22, 23, 24, 25, 26, 27, 28, 29, 30, 31, 32, 33, 34, 35, 36, 37, 38, 39, 40, 41, 42, 43, 44, 45, 46, 47, 48, 49, 50, 51, 52, 53, 54, 55, 56] (by decide +kernel) (by decide +kernel)) (goodIn_sub (fun _ h => List.mem_cons_of_mem _ (List.mem_append_right _ h)) (by decide +kernel))
set_option maxRecDepth 20000 in
theorem gL_safeDirections_X2_safeDirections : GoodIn wsL_safeDirections (wsV RL 56 RX2 yX2_safeDirections wsX2_safeDirections) := goodIn_app (goodIn_of _ (by decide +kernel)) ggL_safeDirections_X2_safeDirections
theorem dL_safeDirections_0 : decode cL_safeDirections 0 = .ok (.aload_n 3, 1) := by decide +kernel
theorem dL_safeDirections_1 : decode cL_safeDirections 1 = .ok (.iconst 0, 1) := by decide +kernel
theorem dL_safeDirections_2 : decode cL_safeDirections 2 = .ok (.aload_n 0, 1) := by decide +kernel
theorem dL_safeDirections_3 : decode cL_safeDirections 3 = .ok (.iload_n 1, 1) := by decide +kernel
theorem dL_safeDirections_4 : decode cL_safeDirections 4 = .ok (.iload_n 2, 1) := by decide +kernel
theorem dL_safeDirections_5 : decode cL_safeDirections 5 = .ok (.invokevirtual 56, 3) := by decide +kernel
theorem dL_safeDirections_8 : decode cL_safeDirections 8 = .ok (.i2l, 1) := by decide +kernel
theorem dL_safeDirections_9 : decode cL_safeDirections 9 = .ok (.lastore, 1) := by decide +kernel
theorem dL_safeDirections_10 : decode cL_safeDirections 10 = .ok (.goto 7, 3) := by decide +kernel
theorem dL_safeDirections_13 : decode cL_safeDirections 13 = .ok (.astore 4, 2) := by decide +kernel
theorem dL_safeDirections_15 : decode cL_safeDirections 15 = .ok (.iconst 1, 1) := by decide +kernel
theorem dL_safeDirections_16 : decode cL_safeDirections 16 = .ok (.ireturn, 1) := by decide +kernel
theorem dL_safeDirections_17 : decode cL_safeDirections 17 = .ok (.iconst 0, 1) := by decide +kernel
theorem dL_safeDirections_18 : decode cL_safeDirections 18 = .ok (.ireturn, 1) := by decide +kernel
set_option maxRecDepth 20000 in
theorem ggL_platesNeeded_X2_platesNeeded : GoodIn wsL_platesNeeded wsX2_platesNeeded := goodIn_ca (goodIn_ca (goodIn_r _ [7, 8, 9, 10, 11, 12, 6, 13, 14, 15, 16, 17, 18, 19, 20, 21, 22, 23, 24, 25, 26, 27, 28, 29, 30, 31, 32, 33, 34, 35, 36, 37, 38, 39, 40, 41, 42, 43, 44, 45, 46, 47, 48, 49, 50, 51, 52, 53, 54, 55, 56, 57, 58, 59, 60, 61, 62, 63, 64, 65, 66, 67, 68, 69, 70, 71, 72, 73, 74, 75, 76] (by decide +kernel) (by decide +kernel)) (goodIn_sub (fun _ h => List.mem_cons_of_mem _ (List.mem_append_left _ (List.mem_append_right _ h))) (by decide +kernel))) (goodIn_sub (fun _ h => List.mem_cons_of_mem _ (List.mem_append_right _ h)) (by decide +kernel))
set_option maxRecDepth 20000 in
theorem gL_platesNeeded_X2_platesNeeded : GoodIn wsL_platesNeeded (wsV RL 59 RX2 yX2_platesNeeded wsX2_platesNeeded) := goodIn_app (goodIn_of _ (by decide +kernel)) ggL_platesNeeded_X2_platesNeeded
theorem dL_platesNeeded_0 : decode cL_platesNeeded 0 = .ok (.aload 4, 2) := by decide +kernel
theorem dL_platesNeeded_2 : decode cL_platesNeeded 2 = .ok (.iconst 0, 1) := by decide +kernel
theorem dL_platesNeeded_3 : decode cL_platesNeeded 3 = .ok (.aload_n 0, 1) := by decide +kernel
theorem dL_platesNeeded_4 : decode cL_platesNeeded 4 = .ok (.iload_n 1, 1) := by decide +kernel
theorem dL_platesNeeded_5 : decode cL_platesNeeded 5 = .ok (.iload_n 2, 1) := by decide +kernel
theorem dL_platesNeeded_6 : decode cL_platesNeeded 6 = .ok (.iload_n 3, 1) := by decide +kernel
theorem dL_platesNeeded_7 : decode cL_platesNeeded 7 = .ok (.invokevirtual 59, 3) := by decide +kernel
theorem dL_platesNeeded_10 : decode cL_platesNeeded 10 = .ok (.i2l, 1) := by decide +kernel
theorem dL_platesNeeded_11 : decode cL_platesNeeded 11 = .ok (.lastore, 1) := by decide +kernel
theorem dL_platesNeeded_12 : decode cL_platesNeeded 12 = .ok (.goto 11, 3) := by decide +kernel
theorem dL_platesNeeded_15 : decode cL_platesNeeded 15 = .ok (.astore 5, 2) := by decide +kernel
theorem dL_platesNeeded_17 : decode cL_platesNeeded 17 = .ok (.iconst 1, 1) := by decide +kernel
theorem dL_platesNeeded_18 : decode cL_platesNeeded 18 = .ok (.ireturn, 1) := by decide +kernel
theorem dL_platesNeeded_19 : decode cL_platesNeeded 19 = .ok (.astore 5, 2) := by decide +kernel
theorem dL_platesNeeded_21 : decode cL_platesNeeded 21 = .ok (.iconst 2, 1) := by decide +kernel
theorem dL_platesNeeded_22 : decode cL_platesNeeded 22 = .ok (.ireturn, 1) := by decide +kernel
theorem dL_platesNeeded_23 : decode cL_platesNeeded 23 = .ok (.iconst 0, 1) := by decide +kernel
theorem dL_platesNeeded_24 : decode cL_platesNeeded 24 = .ok (.ireturn, 1) := by decide +kernel
set_option maxRecDepth 20000 in
theorem ggL_fewestMoves_X2_fewestMoves : GoodIn wsL_fewestMoves wsX2_fewestMoves := goodIn_ca (goodIn_ca (goodIn_r _ [7, 8, 9, 10, 11, 12, 13, 6, 14, 15, 16, 17, 18, 19, 20, 21, 22, 23, 24, 25, 26, 27, 28, 29, 30, 31, 32, 33, 34, 35, 36, 37, 38, 39, 40, 41, 42, 43, 44, 45, 46, 47, 48, 49, 50, 51, 52, 53, 54, 55, 56, 57, 58, 59, 60, 61, 62, 63, 64, 65, 66, 67, 68, 69, 70, 71, 72, 73, 74, 75, 76, 77, 78, 79, 80, 81, 82, 83, 84, 85, 86, 87, 88, 89, 90, 91, 92, 93] (by decide +kernel) (by decide +kernel)) (goodIn_sub (fun _ h => List.mem_cons_of_mem _ (List.mem_append_left _ (List.mem_append_right _ h))) (by decide +kernel))) (goodIn_sub (fun _ h => List.mem_cons_of_mem _ (List.mem_append_right _ h)) (by decide +kernel))
set_option maxRecDepth 20000 in
theorem gL_fewestMoves_X2_fewestMoves : GoodIn wsL_fewestMoves (wsV RL 63 RX2 yX2_fewestMoves wsX2_fewestMoves) := goodIn_app (goodIn_of _ (by decide +kernel)) ggL_fewestMoves_X2_fewestMoves
theorem dL_fewestMoves_0 : decode cL_fewestMoves 0 = .ok (.aload 4, 2) := by decide +kernel
theorem dL_fewestMoves_2 : decode cL_fewestMoves 2 = .ok (.iconst 0, 1) := by decide +kernel
theorem dL_fewestMoves_3 : decode cL_fewestMoves 3 = .ok (.aload_n 0, 1) := by decide +kernel
theorem dL_fewestMoves_4 : decode cL_fewestMoves 4 = .ok (.iload_n 1, 1) := by decide +kernel
theorem dL_fewestMoves_5 : decode cL_fewestMoves 5 = .ok (.iload_n 2, 1) := by decide +kernel
theorem dL_fewestMoves_6 : decode cL_fewestMoves 6 = .ok (.iload_n 3, 1) := by decide +kernel
theorem dL_fewestMoves_7 : decode cL_fewestMoves 7 = .ok (.invokevirtual 63, 3) := by decide +kernel
theorem dL_fewestMoves_10 : decode cL_fewestMoves 10 = .ok (.i2l, 1) := by decide +kernel
theorem dL_fewestMoves_11 : decode cL_fewestMoves 11 = .ok (.lastore, 1) := by decide +kernel
theorem dL_fewestMoves_12 : decode cL_fewestMoves 12 = .ok (.goto 11, 3) := by decide +kernel
theorem dL_fewestMoves_15 : decode cL_fewestMoves 15 = .ok (.astore 5, 2) := by decide +kernel
theorem dL_fewestMoves_17 : decode cL_fewestMoves 17 = .ok (.iconst 1, 1) := by decide +kernel
theorem dL_fewestMoves_18 : decode cL_fewestMoves 18 = .ok (.ireturn, 1) := by decide +kernel
theorem dL_fewestMoves_19 : decode cL_fewestMoves 19 = .ok (.astore 5, 2) := by decide +kernel
theorem dL_fewestMoves_21 : decode cL_fewestMoves 21 = .ok (.iconst 2, 1) := by decide +kernel
theorem dL_fewestMoves_22 : decode cL_fewestMoves 22 = .ok (.ireturn, 1) := by decide +kernel
theorem dL_fewestMoves_23 : decode cL_fewestMoves 23 = .ok (.iconst 0, 1) := by decide +kernel
theorem dL_fewestMoves_24 : decode cL_fewestMoves 24 = .ok (.ireturn, 1) := by decide +kernel
set_option maxRecDepth 20000 in
theorem ggL_placesWithin_X2_placesWithin : GoodIn wsL_placesWithin wsX2_placesWithin := goodIn_ca (goodIn_r _ [6, 7, 8, 9, 10, 11, 12, 5, 13, 14, 15, 16, 17, 18, 19, 20, 21, 22, 23, 24, 25, 26, 27, 28, 29, 30, 31, 32, 33, 34, 35, 36, 37, 38, 39, 40, 41, 42, 43, 44, 45, 46, 47, 48, 49, 50, 51, 52, 53, 54, 55, 56, 57, 58, 59, 60, 61, 62, 63, 64, 65, 66, 67, 68, 69, 70, 71, 72, 73, 74, 75, 76, 77, 78, 79] (by decide +kernel) (by decide +kernel)) (goodIn_sub (fun _ h => List.mem_cons_of_mem _ (List.mem_append_right _ h)) (by decide +kernel))
set_option maxRecDepth 20000 in
theorem gL_placesWithin_X2_placesWithin : GoodIn wsL_placesWithin (wsV RL 66 RX2 yX2_placesWithin wsX2_placesWithin) := goodIn_app (goodIn_of _ (by decide +kernel)) ggL_placesWithin_X2_placesWithin
theorem dL_placesWithin_0 : decode cL_placesWithin 0 = .ok (.aload_n 2, 1) := by decide +kernel
theorem dL_placesWithin_1 : decode cL_placesWithin 1 = .ok (.iconst 0, 1) := by decide +kernel
theorem dL_placesWithin_2 : decode cL_placesWithin 2 = .ok (.aload_n 0, 1) := by decide +kernel
theorem dL_placesWithin_3 : decode cL_placesWithin 3 = .ok (.iload_n 1, 1) := by decide +kernel
theorem dL_placesWithin_4 : decode cL_placesWithin 4 = .ok (.invokevirtual 66, 3) := by decide +kernel
theorem dL_placesWithin_7 : decode cL_placesWithin 7 = .ok (.i2l, 1) := by decide +kernel
theorem dL_placesWithin_8 : decode cL_placesWithin 8 = .ok (.lastore, 1) := by decide +kernel
theorem dL_placesWithin_9 : decode cL_placesWithin 9 = .ok (.goto 6, 3) := by decide +kernel
theorem dL_placesWithin_12 : decode cL_placesWithin 12 = .ok (.astore_n 3, 1) := by decide +kernel
theorem dL_placesWithin_13 : decode cL_placesWithin 13 = .ok (.iconst 1, 1) := by decide +kernel
theorem dL_placesWithin_14 : decode cL_placesWithin 14 = .ok (.ireturn, 1) := by decide +kernel
theorem dL_placesWithin_15 : decode cL_placesWithin 15 = .ok (.iconst 0, 1) := by decide +kernel
theorem dL_placesWithin_16 : decode cL_placesWithin 16 = .ok (.ireturn, 1) := by decide +kernel
set_option maxRecDepth 20000 in
theorem ggL_bestOutrigger_X2_bestOutrigger : GoodIn wsL_bestOutrigger wsX2_bestOutrigger := goodIn_ca (goodIn_r _ [6, 7, 8, 9, 10, 11, 12, 13, 5, 14, 15, 16, 17, 18, 19, 20, 21, 22, 23, 24, 25, 26, 27, 28, 29, 30, 31, 32, 33, 34, 35, 36, 37, 38, 39, 40, 41, 42, 43, 44, 45, 46, 47, 48, 49, 50, 51, 52, 53, 54, 55, 56, 57, 58, 59, 60, 61, 62, 63, 64, 65, 66, 67, 68, 69, 70, 71, 72, 73, 74, 75, 76, 77, 78, 79, 80, 81, 82, 83, 84, 85, 86, 87, 88, 89, 90, 91, 92, 93, 94] (by decide +kernel) (by decide +kernel)) (goodIn_sub (fun _ h => List.mem_cons_of_mem _ (List.mem_append_right _ h)) (by decide +kernel))
set_option maxRecDepth 20000 in
theorem gL_bestOutrigger_X2_bestOutrigger : GoodIn wsL_bestOutrigger (wsV RL 69 RX2 yX2_bestOutrigger wsX2_bestOutrigger) := goodIn_app (goodIn_of _ (by decide +kernel)) ggL_bestOutrigger_X2_bestOutrigger
theorem dL_bestOutrigger_0 : decode cL_bestOutrigger 0 = .ok (.aload_n 2, 1) := by decide +kernel
theorem dL_bestOutrigger_1 : decode cL_bestOutrigger 1 = .ok (.iconst 0, 1) := by decide +kernel
theorem dL_bestOutrigger_2 : decode cL_bestOutrigger 2 = .ok (.aload_n 0, 1) := by decide +kernel
theorem dL_bestOutrigger_3 : decode cL_bestOutrigger 3 = .ok (.iload_n 1, 1) := by decide +kernel
theorem dL_bestOutrigger_4 : decode cL_bestOutrigger 4 = .ok (.invokevirtual 69, 3) := by decide +kernel
theorem dL_bestOutrigger_7 : decode cL_bestOutrigger 7 = .ok (.i2l, 1) := by decide +kernel
theorem dL_bestOutrigger_8 : decode cL_bestOutrigger 8 = .ok (.lastore, 1) := by decide +kernel
theorem dL_bestOutrigger_9 : decode cL_bestOutrigger 9 = .ok (.goto 6, 3) := by decide +kernel
theorem dL_bestOutrigger_12 : decode cL_bestOutrigger 12 = .ok (.astore_n 3, 1) := by decide +kernel
theorem dL_bestOutrigger_13 : decode cL_bestOutrigger 13 = .ok (.iconst 1, 1) := by decide +kernel
theorem dL_bestOutrigger_14 : decode cL_bestOutrigger 14 = .ok (.ireturn, 1) := by decide +kernel
theorem dL_bestOutrigger_15 : decode cL_bestOutrigger 15 = .ok (.iconst 0, 1) := by decide +kernel
theorem dL_bestOutrigger_16 : decode cL_bestOutrigger 16 = .ok (.ireturn, 1) := by decide +kernel
