set_option maxRecDepth 20000 in
theorem ggL_law_X2_init : GoodIn wsL_law wsX2_init := goodIn_r _ [11, 12, 13, 14, 15, 16, 17, 18, 19, 20, 21, 22, 23, 24, 25, 26, 27, 28, 8, 29, 30, 31, 32, 33, 34, 35, 362, 363, 364, 344, 345, 346, 347, 348, 349, 350, 351, 352, 365, 366, 367] (by decide +kernel) (by decide +kernel)
set_option maxRecDepth 20000 in
theorem gL_law_X2_init : GoodIn wsL_law (wsX2_init) := ggL_law_X2_init
set_option maxRecDepth 20000 in
theorem ggL_law_X3_init : GoodIn wsL_law wsX3_init := goodIn_r _ [38, 39, 13, 14, 40, 8, 41, 42, 353, 354, 355, 356, 357, 358, 359, 360, 361] (by decide +kernel) (by decide +kernel)
set_option maxRecDepth 20000 in
theorem gL_law_X3_init : GoodIn wsL_law (wsX3_init) := ggL_law_X3_init
set_option maxRecDepth 20000 in
theorem ggL_law_L_cell : GoodIn wsL_law wsL_cell := goodIn_r _ [46, 47] (by decide +kernel) (by decide +kernel)
set_option maxRecDepth 20000 in
theorem gL_law_L_cell : GoodIn wsL_law (va_wsS RL 88 yL_cell wsL_cell) := goodIn_app (goodIn_of _ (by decide +kernel)) ggL_law_L_cell
set_option maxRecDepth 20000 in
theorem ggA_c : GoodIn wsL_law [Cond.codeWith yL_act cL_act 7 (some .boolean) [(2, 135, 676, 84), (136, 244, 676, 84), (245, 359, 676, 84), (360, 471, 676, 84), (472, 534, 676, 84), (535, 597, 676, 84), (598, 675, 676, 84)]] := fun w hw => by
  cases List.mem_singleton.mp hw
  exact ⟨List.mem_of_getElem? (i := 50) rfl, good_of_word rfl⟩
set_option maxRecDepth 20000 in
theorem ggA__r1 : GoodIn wsL_law wsL_act_r1 := goodIn_r _ [51, 6, 52, 53, 54, 55, 56, 57, 58, 59, 60, 45, 61, 62, 63, 64, 65, 5, 66, 67, 4, 68, 40, 69] (by decide +kernel) (by decide +kernel)
set_option maxRecDepth 20000 in
theorem ggA__r2 : GoodIn wsL_law wsL_act_r2 := goodIn_r _ [70, 41, 71, 72, 73, 74, 75, 76, 42, 77, 78, 79, 80, 37, 38, 39, 13, 14, 8, 81, 82, 83, 84, 85] (by decide +kernel) (by decide +kernel)
set_option maxRecDepth 20000 in
theorem ggA__r3 : GoodIn wsL_law wsL_act_r3 := goodIn_r _ [86, 87, 88, 89, 90, 91, 2, 92, 93, 94, 19, 18, 95, 96, 97, 98, 99, 100, 101, 102, 17, 103, 104, 105] (by decide +kernel) (by decide +kernel)
set_option maxRecDepth 20000 in
theorem ggA__r4 : GoodIn wsL_law wsL_act_r4 := goodIn_r _ [106, 107, 108, 29, 109, 110, 111, 112, 113, 114, 115, 116, 30, 117, 118, 119, 120, 121, 122, 123, 124, 125, 126, 127] (by decide +kernel) (by decide +kernel)
set_option maxRecDepth 20000 in
theorem ggA__r5 : GoodIn wsL_law wsL_act_r5 := goodIn_r _ [24, 128, 129, 130, 131, 132, 133, 134, 135, 136, 137, 138, 139, 140, 141, 142, 143, 144, 145, 146, 147, 148, 149, 150] (by decide +kernel) (by decide +kernel)
set_option maxRecDepth 20000 in
theorem ggA__r6 : GoodIn wsL_law wsL_act_r6 := goodIn_r _ [151, 152, 153, 154, 155, 156, 157, 158, 159, 160, 161, 162, 163, 164, 165, 166, 167, 168, 169, 170, 171, 172, 173, 174] (by decide +kernel) (by decide +kernel)
set_option maxRecDepth 20000 in
theorem ggA__r7 : GoodIn wsL_law wsL_act_r7 := goodIn_r _ [175, 176, 177, 178, 179, 180, 181, 182, 183, 184, 185, 186, 187, 188, 189, 190, 191, 192, 193, 194, 195, 196, 197, 198] (by decide +kernel) (by decide +kernel)
set_option maxRecDepth 20000 in
theorem ggA__r8 : GoodIn wsL_law wsL_act_r8 := goodIn_r _ [199, 200, 201] (by decide +kernel) (by decide +kernel)
set_option maxRecDepth 20000 in
theorem ggA_wsX30 : GoodIn wsL_law wsX30 := goodIn_r _ [353, 354, 355, 356, 357, 358, 359, 360, 361] (by decide +kernel) (by decide +kernel)
set_option maxRecDepth 20000 in
theorem ggA_wsX20 : GoodIn wsL_law wsX20 := goodIn_r _ [344, 345, 346, 347, 348, 349, 350, 351, 352] (by decide +kernel) (by decide +kernel)
set_option maxRecDepth 20000 in
theorem ggA_wsX10 : GoodIn wsL_law wsX10 := goodIn_r _ [362, 363, 364] (by decide +kernel) (by decide +kernel)
set_option maxRecDepth 20000 in
theorem ggA_all : GoodIn wsL_law ((((wsL_act_r1 ++ (wsL_act_r2 ++ (wsL_act_r3 ++ (wsL_act_r4 ++ (wsL_act_r5 ++ (wsL_act_r6 ++ (wsL_act_r7 ++ (wsL_act_r8)))))))) ++ wsX30) ++ wsX20) ++ wsX10) := goodIn_app (goodIn_app (goodIn_app (goodIn_app ggA__r1 (goodIn_app ggA__r2 (goodIn_app ggA__r3 (goodIn_app ggA__r4 (goodIn_app ggA__r5 (goodIn_app ggA__r6 (goodIn_app ggA__r7 (ggA__r8)))))))) ggA_wsX30) ggA_wsX20) ggA_wsX10
set_option maxRecDepth 20000 in
theorem ggA_0 : GoodIn wsL_law (Cond.codeWith yL_act cL_act 7 (some .boolean) [(2, 135, 676, 84), (136, 244, 676, 84), (245, 359, 676, 84), (360, 471, 676, 84), (472, 534, 676, 84), (535, 597, 676, 84), (598, 675, 676, 84)] :: ((((wsL_act_r1 ++ (wsL_act_r2 ++ (wsL_act_r3 ++ (wsL_act_r4 ++ (wsL_act_r5 ++ (wsL_act_r6 ++ (wsL_act_r7 ++ (wsL_act_r8)))))))) ++ wsX30) ++ wsX20) ++ wsX10)) := fun w h => (List.mem_cons.mp h).elim (fun e => ggA_c w (List.mem_cons.mpr (Or.inl e))) (fun h => ggA_all w h)
set_option maxRecDepth 20000 in
theorem ggL_law_L_act : GoodIn wsL_law wsL_act := goodIn_ca (goodIn_ca (goodIn_ca ggA_0 (goodIn_sub (fun _ h => List.mem_append_left _ (List.mem_append_left _ (List.mem_append_right _ h))) (by decide +kernel))) (goodIn_sub (fun _ h => List.mem_append_left _ (List.mem_append_right _ h)) (by decide +kernel))) (goodIn_sub (fun _ h => List.mem_append_right _ h) (by decide +kernel))
set_option maxRecDepth 20000 in
theorem gL_law_L_act : GoodIn wsL_law (va_wsS RL 92 yL_act wsL_act) := goodIn_app (goodIn_of _ (by decide +kernel)) ggL_law_L_act
set_option maxRecDepth 20000 in
theorem ggL_law_X2_digest : GoodIn wsL_law wsX2_digest := goodIn_ca (goodIn_r _ [205, 206, 127, 24, 96, 18, 95, 175, 176, 192, 207, 208, 2, 209, 210, 211, 212, 213, 214, 215, 133, 134, 17, 135, 104, 105, 106, 107, 108, 29, 136, 137, 138, 216, 217, 218, 219, 128, 129, 130, 131, 113, 114, 115, 116, 30, 132, 153, 165, 220, 221, 222, 223, 224, 225, 226, 93, 94, 97, 98, 99, 158, 159, 160, 161, 162, 163, 344, 345, 346, 347, 348, 349, 350, 351, 352, 362, 363, 364] (by decide +kernel) (by decide +kernel)) (goodIn_sub (fun _ h => List.mem_append_left _ (List.mem_append_left _ (List.mem_append_right _ h))) (by decide +kernel))
set_option maxRecDepth 20000 in
theorem gL_law_X2_digest : GoodIn wsL_law (wsV RL 96 RX2 yX2_digest wsX2_digest) := goodIn_app (goodIn_of _ (by decide +kernel)) ggL_law_X2_digest
set_option maxRecDepth 20000 in
theorem ggL_law_X2_load : GoodIn wsL_law wsX2_load := goodIn_r _ [230, 96, 344, 345, 346, 347, 348, 349, 350, 351, 352] (by decide +kernel) (by decide +kernel)
set_option maxRecDepth 20000 in
theorem gL_law_X2_load : GoodIn wsL_law (wsV RL 100 RX2 yX2_load wsX2_load) := goodIn_app (goodIn_of _ (by decide +kernel)) ggL_law_X2_load
set_option maxRecDepth 20000 in
theorem ggL_law_X2_direction : GoodIn wsL_law wsX2_direction := goodIn_r _ [234, 127, 344, 345, 346, 347, 348, 349, 350, 351, 352] (by decide +kernel) (by decide +kernel)
set_option maxRecDepth 20000 in
theorem gL_law_X2_direction : GoodIn wsL_law (wsV RL 102 RX2 yX2_direction wsX2_direction) := goodIn_app (goodIn_of _ (by decide +kernel)) ggL_law_X2_direction
set_option maxRecDepth 20000 in
theorem ggL_law_X2_reach : GoodIn wsL_law wsX2_reach := goodIn_r _ [238, 24, 344, 345, 346, 347, 348, 349, 350, 351, 352] (by decide +kernel) (by decide +kernel)
set_option maxRecDepth 20000 in
theorem gL_law_X2_reach : GoodIn wsL_law (wsV RL 104 RX2 yX2_reach wsX2_reach) := goodIn_app (goodIn_of _ (by decide +kernel)) ggL_law_X2_reach
set_option maxRecDepth 20000 in
theorem ggL_law_X2_isSafeWith : GoodIn wsL_law wsX2_isSafeWith := goodIn_ca (goodIn_ca (goodIn_r _ [242, 18, 243, 244, 2, 245, 146, 147, 97, 98, 99, 224, 225, 226, 93, 94, 158, 159, 160, 161, 162, 163, 128, 129, 130, 17, 131, 113, 114, 115, 116, 30, 132, 133, 134, 135, 104, 105, 106, 107, 108, 29, 136, 137, 138, 344, 345, 346, 347, 348, 349, 350, 351, 352, 362, 363, 364] (by decide +kernel) (by decide +kernel)) (goodIn_sub (fun _ h => List.mem_append_right _ h) (by decide +kernel))) (goodIn_sub (fun _ h => List.mem_append_left _ (List.mem_append_left _ (List.mem_append_right _ h))) (by decide +kernel))
set_option maxRecDepth 20000 in
theorem gL_law_X2_isSafeWith : GoodIn wsL_law (wsV RL 106 RX2 yX2_isSafeWith wsX2_isSafeWith) := goodIn_app (goodIn_of _ (by decide +kernel)) ggL_law_X2_isSafeWith
set_option maxRecDepth 20000 in
theorem ggL_law_X2_limitAt : GoodIn wsL_law wsX2_limitAt := goodIn_ca (goodIn_r _ [249, 18, 158, 159, 2, 160, 93, 94, 161, 162, 163, 97, 98, 99, 165, 114, 115, 17, 116, 30, 344, 345, 346, 347, 348, 349, 350, 351, 352, 362, 363, 364] (by decide +kernel) (by decide +kernel)) (goodIn_sub (fun _ h => List.mem_append_left _ (List.mem_append_left _ (List.mem_append_right _ h))) (by decide +kernel))
set_option maxRecDepth 20000 in
theorem gL_law_X2_limitAt : GoodIn wsL_law (wsV RL 109 RX2 yX2_limitAt wsX2_limitAt) := goodIn_app (goodIn_of _ (by decide +kernel)) ggL_law_X2_limitAt
set_option maxRecDepth 20000 in
theorem ggL_law_X2_strainOn : GoodIn wsL_law wsX2_strainOn := goodIn_ca (goodIn_r _ [253, 18, 96, 127, 24, 143, 144, 2, 145, 146, 147, 97, 98, 99, 215, 133, 134, 17, 135, 104, 105, 106, 107, 108, 29, 136, 137, 138, 344, 345, 346, 347, 348, 349, 350, 351, 352, 362, 363, 364] (by decide +kernel) (by decide +kernel)) (goodIn_sub (fun _ h => List.mem_append_right _ h) (by decide +kernel))
set_option maxRecDepth 20000 in
theorem gL_law_X2_strainOn : GoodIn wsL_law (wsV RL 112 RX2 yX2_strainOn wsX2_strainOn) := goodIn_app (goodIn_of _ (by decide +kernel)) ggL_law_X2_strainOn
set_option maxRecDepth 20000 in
theorem ggL_law_X2_weakestSide : GoodIn wsL_law wsX2_weakestSide := goodIn_r _ [214, 18, 96, 127, 24, 215, 133, 134, 17, 135, 104, 105, 106, 107, 108, 29, 136, 137, 138, 344, 345, 346, 347, 348, 349, 350, 351, 352, 362, 363, 364] (by decide +kernel) (by decide +kernel)
set_option maxRecDepth 20000 in
theorem gL_law_X2_weakestSide : GoodIn wsL_law (wsV RL 115 RX2 yX2_weakestSide wsX2_weakestSide) := goodIn_app (goodIn_of _ (by decide +kernel)) ggL_law_X2_weakestSide
set_option maxRecDepth 20000 in
theorem ggL_law_X2_greatestLoad : GoodIn wsL_law wsX2_greatestLoad := goodIn_r _ [219, 18, 127, 24, 128, 129, 130, 17, 131, 113, 114, 115, 116, 30, 132, 133, 134, 135, 104, 105, 106, 107, 108, 29, 136, 137, 138, 344, 345, 346, 347, 348, 349, 350, 351, 352, 362, 363, 364] (by decide +kernel) (by decide +kernel)
set_option maxRecDepth 20000 in
theorem gL_law_X2_greatestLoad : GoodIn wsL_law (wsV RL 118 RX2 yX2_greatestLoad wsX2_greatestLoad) := goodIn_app (goodIn_of _ (by decide +kernel)) ggL_law_X2_greatestLoad
set_option maxRecDepth 20000 in
theorem ggL_law_L_below : GoodIn wsL_law wsL_below := goodIn_r _ [61, 62] (by decide +kernel) (by decide +kernel)
set_option maxRecDepth 20000 in
theorem gL_law_L_below : GoodIn wsL_law (va_wsS RL 9 yL_below wsL_below) := goodIn_app (goodIn_of _ (by decide +kernel)) ggL_law_L_below
set_option maxRecDepth 20000 in
theorem ggL_law_X2_farthestReach : GoodIn wsL_law wsX2_farthestReach := goodIn_ca (goodIn_ca (goodIn_r _ [259, 18, 243, 244, 2, 245, 146, 147, 97, 98, 99, 224, 225, 226, 93, 94, 128, 129, 130, 17, 131, 113, 114, 115, 116, 30, 132, 133, 134, 135, 104, 105, 106, 107, 108, 29, 136, 137, 138, 344, 345, 346, 347, 348, 349, 350, 351, 352, 362, 363, 364] (by decide +kernel) (by decide +kernel)) (goodIn_sub (fun _ h => List.mem_append_right _ h) (by decide +kernel))) (goodIn_sub (fun _ h => List.mem_append_left _ (List.mem_append_left _ (List.mem_append_right _ h))) (by decide +kernel))
set_option maxRecDepth 20000 in
theorem gL_law_X2_farthestReach : GoodIn wsL_law (wsV RL 121 RX2 yX2_farthestReach wsX2_farthestReach) := goodIn_app (goodIn_of _ (by decide +kernel)) ggL_law_X2_farthestReach
set_option maxRecDepth 20000 in
theorem ggL_law_X2_platesNeeded : GoodIn wsL_law wsX2_platesNeeded := goodIn_ca (goodIn_ca (goodIn_r _ [263, 19, 18, 95, 243, 244, 2, 245, 146, 147, 97, 98, 99, 224, 225, 226, 93, 94, 158, 159, 160, 161, 162, 163, 100, 101, 102, 17, 103, 104, 105, 106, 107, 108, 29, 109, 110, 111, 112, 113, 114, 115, 116, 30, 117, 118, 119, 120, 128, 129, 130, 131, 132, 133, 134, 135, 136, 137, 138, 344, 345, 346, 347, 348, 349, 350, 351, 352, 362, 363, 364] (by decide +kernel) (by decide +kernel)) (goodIn_sub (fun _ h => List.mem_append_right _ h) (by decide +kernel))) (goodIn_sub (fun _ h => List.mem_append_left _ (List.mem_append_left _ (List.mem_append_right _ h))) (by decide +kernel))
set_option maxRecDepth 20000 in
theorem gL_law_X2_platesNeeded : GoodIn wsL_law (wsV RL 124 RX2 yX2_platesNeeded wsX2_platesNeeded) := goodIn_app (goodIn_of _ (by decide +kernel)) ggL_law_X2_platesNeeded
set_option maxRecDepth 20000 in
theorem ggL_law_X2_safeDirections : GoodIn wsL_law wsX2_safeDirections := goodIn_ca (goodIn_r _ [223, 18, 224, 225, 2, 226, 93, 94, 97, 98, 99, 158, 159, 160, 161, 162, 163, 128, 129, 130, 17, 131, 113, 114, 115, 116, 30, 132, 133, 134, 135, 104, 105, 106, 107, 108, 29, 136, 137, 138, 344, 345, 346, 347, 348, 349, 350, 351, 352, 362, 363, 364] (by decide +kernel) (by decide +kernel)) (goodIn_sub (fun _ h => List.mem_append_left _ (List.mem_append_left _ (List.mem_append_right _ h))) (by decide +kernel))
set_option maxRecDepth 20000 in
theorem gL_law_X2_safeDirections : GoodIn wsL_law (wsV RL 127 RX2 yX2_safeDirections wsX2_safeDirections) := goodIn_app (goodIn_of _ (by decide +kernel)) ggL_law_X2_safeDirections
set_option maxRecDepth 20000 in
theorem ggL_law_X2_plates : GoodIn wsL_law wsX2_plates := goodIn_r _ [268, 18, 95, 344, 345, 346, 347, 348, 349, 350, 351, 352, 362, 363, 364] (by decide +kernel) (by decide +kernel)
set_option maxRecDepth 20000 in
theorem gL_law_X2_plates : GoodIn wsL_law (wsV RL 130 RX2 yX2_plates wsX2_plates) := goodIn_app (goodIn_of _ (by decide +kernel)) ggL_law_X2_plates
set_option maxRecDepth 20000 in
theorem ggL_law_X3_with : GoodIn wsL_law wsX3_with := goodIn_r _ [272, 69, 68, 40, 273, 64, 65, 5, 66, 67, 4, 70, 41, 71, 72, 73, 74, 75, 76, 42, 77, 78, 79, 80, 37, 38, 39, 13, 14, 8, 353, 354, 355, 356, 357, 358, 359, 360, 361] (by decide +kernel) (by decide +kernel)
set_option maxRecDepth 20000 in
theorem gL_law_X3_with : GoodIn wsL_law (wsV RL 132 RX3 yX3_with wsX3_with) := goodIn_app (goodIn_of _ (by decide +kernel)) ggL_law_X3_with
set_option maxRecDepth 20000 in
theorem ggL_law_X3_isSafe : GoodIn wsL_law wsX3_isSafe := goodIn_r _ [84, 69, 42, 40, 85, 86, 87, 5, 88, 8, 68, 41, 70, 353, 354, 355, 356, 357, 358, 359, 360, 361] (by decide +kernel) (by decide +kernel)
set_option maxRecDepth 20000 in
theorem gL_law_X3_isSafe : GoodIn wsL_law (wsV RL 25 RX3 yX3_isSafe wsX3_isSafe) := goodIn_app (goodIn_of _ (by decide +kernel)) ggL_law_X3_isSafe
set_option maxRecDepth 20000 in
theorem ggL_law_X2_fewestMoves : GoodIn wsL_law wsX2_fewestMoves := goodIn_ca (goodIn_ca (goodIn_r _ [277, 23, 18, 127, 24, 243, 244, 2, 245, 146, 147, 97, 98, 99, 224, 225, 226, 93, 94, 158, 159, 160, 161, 162, 163, 278, 279, 280, 22, 281, 282, 34, 35, 283, 284, 285, 286, 287, 288, 289, 290, 129, 130, 17, 131, 113, 114, 115, 116, 30, 132, 133, 134, 135, 104, 105, 106, 107, 108, 29, 136, 137, 138, 291, 292, 293, 294, 186, 187, 295, 296, 297, 298, 344, 345, 346, 347, 348, 349, 350, 351, 352, 365, 366, 367, 362, 363, 364] (by decide +kernel) (by decide +kernel)) (goodIn_sub (fun _ h => List.mem_append_right _ h) (by decide +kernel))) (goodIn_sub (fun _ h => List.mem_append_left _ (List.mem_append_left _ (List.mem_append_right _ h))) (by decide +kernel))
set_option maxRecDepth 20000 in
theorem gL_law_X2_fewestMoves : GoodIn wsL_law (wsV RL 138 RX2 yX2_fewestMoves wsX2_fewestMoves) := goodIn_app (goodIn_of _ (by decide +kernel)) ggL_law_X2_fewestMoves
set_option maxRecDepth 20000 in
theorem ggL_law_X2_bestOutrigger : GoodIn wsL_law wsX2_bestOutrigger := goodIn_ca (goodIn_r _ [302, 18, 19, 23, 127, 24, 224, 225, 2, 226, 93, 94, 97, 98, 99, 153, 106, 107, 17, 108, 29, 100, 101, 102, 103, 104, 105, 109, 110, 111, 112, 113, 114, 115, 116, 30, 117, 118, 119, 120, 152, 278, 279, 280, 22, 281, 282, 34, 35, 283, 284, 285, 286, 287, 288, 289, 162, 163, 290, 129, 130, 131, 132, 133, 134, 135, 136, 137, 138, 291, 292, 293, 294, 186, 187, 344, 345, 346, 347, 348, 349, 350, 351, 352, 362, 363, 364, 365, 366, 367] (by decide +kernel) (by decide +kernel)) (goodIn_sub (fun _ h => List.mem_append_left _ (List.mem_append_left _ (List.mem_append_right _ h))) (by decide +kernel))
set_option maxRecDepth 20000 in
theorem gL_law_X2_bestOutrigger : GoodIn wsL_law (wsV RL 141 RX2 yX2_bestOutrigger wsX2_bestOutrigger) := goodIn_app (goodIn_of _ (by decide +kernel)) ggL_law_X2_bestOutrigger
set_option maxRecDepth 20000 in
theorem ggL_law_X2_placesWithin : GoodIn wsL_law wsX2_placesWithin := goodIn_ca (goodIn_r _ [306, 23, 18, 127, 24, 224, 225, 2, 226, 93, 94, 97, 98, 99, 278, 279, 280, 22, 281, 282, 34, 35, 283, 284, 285, 286, 287, 288, 289, 162, 163, 290, 129, 130, 17, 131, 113, 114, 115, 116, 30, 132, 133, 134, 135, 104, 105, 106, 107, 108, 29, 136, 137, 138, 291, 292, 293, 294, 186, 187, 344, 345, 346, 347, 348, 349, 350, 351, 352, 365, 366, 367, 362, 363, 364] (by decide +kernel) (by decide +kernel)) (goodIn_sub (fun _ h => List.mem_append_left _ (List.mem_append_left _ (List.mem_append_right _ h))) (by decide +kernel))
set_option maxRecDepth 20000 in
theorem gL_law_X2_placesWithin : GoodIn wsL_law (wsV RL 144 RX2 yX2_placesWithin wsX2_placesWithin) := goodIn_app (goodIn_of _ (by decide +kernel)) ggL_law_X2_placesWithin
set_option maxRecDepth 20000 in
theorem ggL_law_X2_outrigger : GoodIn wsL_law wsX2_outrigger := goodIn_ca (goodIn_r _ [310, 18, 143, 144, 2, 145, 146, 147, 97, 98, 99, 153, 106, 107, 17, 108, 29, 344, 345, 346, 347, 348, 349, 350, 351, 352, 362, 363, 364] (by decide +kernel) (by decide +kernel)) (goodIn_sub (fun _ h => List.mem_append_right _ h) (by decide +kernel))
set_option maxRecDepth 20000 in
theorem gL_law_X2_outrigger : GoodIn wsL_law (wsV RL 147 RX2 yX2_outrigger wsX2_outrigger) := goodIn_app (goodIn_of _ (by decide +kernel)) ggL_law_X2_outrigger
set_option maxRecDepth 20000 in
theorem ggL_law_X3_isSame : GoodIn wsL_law wsX3_isSame := goodIn_ca (goodIn_ca (goodIn_r _ [314, 41, 42, 68, 40, 69, 70, 77, 78, 79, 315, 308, 309, 2, 310, 18, 143, 144, 145, 146, 147, 97, 98, 99, 153, 106, 107, 17, 108, 29, 316, 251, 252, 253, 96, 127, 24, 215, 133, 134, 135, 104, 105, 136, 137, 138, 85, 86, 87, 5, 88, 8, 317, 247, 248, 249, 158, 159, 160, 93, 94, 161, 162, 163, 165, 114, 115, 116, 30, 318, 232, 233, 234, 319, 236, 237, 238, 320, 228, 229, 230, 321, 266, 267, 268, 95, 322, 212, 213, 214, 323, 324, 325, 326, 175, 327, 328, 329, 330, 176, 331, 332, 333, 334, 192, 335, 217, 218, 219, 128, 129, 130, 131, 113, 132, 336, 337, 338, 339, 197, 167, 168, 169, 170, 82, 83, 84, 340, 341, 342, 343, 353, 354, 355, 356, 357, 358, 359, 360, 361, 344, 345, 346, 347, 348, 349, 350, 351, 352, 362, 363, 364] (by decide +kernel) (by decide +kernel)) (goodIn_sub (fun _ h => List.mem_append_right _ h) (by decide +kernel))) (goodIn_sub (fun _ h => List.mem_append_left _ (List.mem_append_left _ (List.mem_append_right _ h))) (by decide +kernel))
set_option maxRecDepth 20000 in
theorem gL_law_X3_isSame : GoodIn wsL_law (wsV RL 150 RX3 yX3_isSame wsX3_isSame) := goodIn_app (goodIn_of _ (by decide +kernel)) ggL_law_X3_isSame
theorem dL_law_0 : decode cL_law 0 = .ok (.new 30, 3) := by decide +kernel
theorem dL_law_3 : decode cL_law 3 = .ok (.dup, 1) := by decide +kernel
theorem dL_law_4 : decode cL_law 4 = .ok (.invokespecial 86, 3) := by decide +kernel
theorem dL_law_7 : decode cL_law 7 = .ok (.astore_n 1, 1) := by decide +kernel
theorem dL_law_8 : decode cL_law 8 = .ok (.new 16, 3) := by decide +kernel
theorem dL_law_11 : decode cL_law 11 = .ok (.dup, 1) := by decide +kernel
theorem dL_law_12 : decode cL_law 12 = .ok (.invokespecial 87, 3) := by decide +kernel
theorem dL_law_15 : decode cL_law 15 = .ok (.astore_n 2, 1) := by decide +kernel
theorem dL_law_16 : decode cL_law 16 = .ok (.iconst 0, 1) := by decide +kernel
theorem dL_law_17 : decode cL_law 17 = .ok (.istore_n 3, 1) := by decide +kernel
theorem dL_law_18 : decode cL_law 18 = .ok (.iload_n 3, 1) := by decide +kernel
theorem dL_law_19 : decode cL_law 19 = .ok (.bipush 10, 2) := by decide +kernel
theorem dL_law_21 : decode cL_law 21 = .ok (.if_icmp .ge 870, 3) := by decide +kernel
theorem dL_law_24 : decode cL_law 24 = .ok (.aload_n 0, 1) := by decide +kernel
theorem dL_law_25 : decode cL_law 25 = .ok (.iload_n 3, 1) := by decide +kernel
theorem dL_law_26 : decode cL_law 26 = .ok (.invokestatic 88, 3) := by decide +kernel
theorem dL_law_29 : decode cL_law 29 = .ok (.iconst 2, 1) := by decide +kernel
theorem dL_law_30 : decode cL_law 30 = .ok (.ishr, 1) := by decide +kernel
theorem dL_law_31 : decode cL_law 31 = .ok (.bipush 53, 2) := by decide +kernel
theorem dL_law_33 : decode cL_law 33 = .ok (.iload_n 3, 1) := by decide +kernel
theorem dL_law_34 : decode cL_law 34 = .ok (.imul, 1) := by decide +kernel
theorem dL_law_35 : decode cL_law 35 = .ok (.iadd, 1) := by decide +kernel
theorem dL_law_36 : decode cL_law 36 = .ok (.istore 4, 2) := by decide +kernel
theorem dL_law_38 : decode cL_law 38 = .ok (.iconst 0, 1) := by decide +kernel
theorem dL_law_39 : decode cL_law 39 = .ok (.istore 5, 2) := by decide +kernel
theorem dL_law_41 : decode cL_law 41 = .ok (.iload 5, 2) := by decide +kernel
theorem dL_law_43 : decode cL_law 43 = .ok (.iconst 3, 1) := by decide +kernel
theorem dL_law_44 : decode cL_law 44 = .ok (.if_icmp .ge 32, 3) := by decide +kernel
theorem dL_law_47 : decode cL_law 47 = .ok (.aload_n 1, 1) := by decide +kernel
theorem dL_law_48 : decode cL_law 48 = .ok (.aload_n 2, 1) := by decide +kernel
theorem dL_law_49 : decode cL_law 49 = .ok (.iload 4, 2) := by decide +kernel
theorem dL_law_51 : decode cL_law 51 = .ok (.iconst 3, 1) := by decide +kernel
theorem dL_law_52 : decode cL_law 52 = .ok (.iload 5, 2) := by decide +kernel
theorem dL_law_54 : decode cL_law 54 = .ok (.imul, 1) := by decide +kernel
theorem dL_law_55 : decode cL_law 55 = .ok (.ishr, 1) := by decide +kernel
theorem dL_law_56 : decode cL_law 56 = .ok (.bipush 29, 2) := by decide +kernel
theorem dL_law_58 : decode cL_law 58 = .ok (.iload 5, 2) := by decide +kernel
theorem dL_law_60 : decode cL_law 60 = .ok (.imul, 1) := by decide +kernel
theorem dL_law_61 : decode cL_law 61 = .ok (.iadd, 1) := by decide +kernel
theorem dL_law_62 : decode cL_law 62 = .ok (.invokestatic 92, 3) := by decide +kernel
theorem dL_law_65 : decode cL_law 65 = .ok (.ifCond .ne 5, 3) := by decide +kernel
theorem dL_law_68 : decode cL_law 68 = .ok (.iconst 0, 1) := by decide +kernel
theorem dL_law_69 : decode cL_law 69 = .ok (.ireturn, 1) := by decide +kernel
theorem dL_law_70 : decode cL_law 70 = .ok (.iinc 5 1, 3) := by decide +kernel
theorem dL_law_73 : decode cL_law 73 = .ok (.goto (-32), 3) := by decide +kernel
theorem dL_law_76 : decode cL_law 76 = .ok (.aload_n 1, 1) := by decide +kernel
theorem dL_law_77 : decode cL_law 77 = .ok (.invokevirtual 96, 3) := by decide +kernel
theorem dL_law_80 : decode cL_law 80 = .ok (.lstore 5, 2) := by decide +kernel
theorem dL_law_82 : decode cL_law 82 = .ok (.aload_n 1, 1) := by decide +kernel
theorem dL_law_83 : decode cL_law 83 = .ok (.aload_n 1, 1) := by decide +kernel
theorem dL_law_84 : decode cL_law 84 = .ok (.invokevirtual 100, 3) := by decide +kernel
theorem dL_law_87 : decode cL_law 87 = .ok (.aload_n 1, 1) := by decide +kernel
theorem dL_law_88 : decode cL_law 88 = .ok (.invokevirtual 102, 3) := by decide +kernel
theorem dL_law_91 : decode cL_law 91 = .ok (.aload_n 1, 1) := by decide +kernel
theorem dL_law_92 : decode cL_law 92 = .ok (.invokevirtual 104, 3) := by decide +kernel
theorem dL_law_95 : decode cL_law 95 = .ok (.invokevirtual 106, 3) := by decide +kernel
theorem dL_law_98 : decode cL_law 98 = .ok (.ifCond .eq 18, 3) := by decide +kernel
theorem dL_law_101 : decode cL_law 101 = .ok (.aload_n 1, 1) := by decide +kernel
theorem dL_law_102 : decode cL_law 102 = .ok (.invokevirtual 100, 3) := by decide +kernel
theorem dL_law_105 : decode cL_law 105 = .ok (.aload_n 1, 1) := by decide +kernel
theorem dL_law_106 : decode cL_law 106 = .ok (.aload_n 1, 1) := by decide +kernel
theorem dL_law_107 : decode cL_law 107 = .ok (.invokevirtual 104, 3) := by decide +kernel
theorem dL_law_110 : decode cL_law 110 = .ok (.invokevirtual 109, 3) := by decide +kernel
theorem dL_law_113 : decode cL_law 113 = .ok (.if_icmp .le 5, 3) := by decide +kernel
theorem dL_law_116 : decode cL_law 116 = .ok (.iconst 0, 1) := by decide +kernel
theorem dL_law_117 : decode cL_law 117 = .ok (.ireturn, 1) := by decide +kernel
theorem dL_law_118 : decode cL_law 118 = .ok (.iconst 0, 1) := by decide +kernel
theorem dL_law_119 : decode cL_law 119 = .ok (.istore 7, 2) := by decide +kernel
theorem dL_law_121 : decode cL_law 121 = .ok (.iload 7, 2) := by decide +kernel
theorem dL_law_123 : decode cL_law 123 = .ok (.iconst 4, 1) := by decide +kernel
theorem dL_law_124 : decode cL_law 124 = .ok (.if_icmp .ge 37, 3) := by decide +kernel
theorem dL_law_127 : decode cL_law 127 = .ok (.aload_n 1, 1) := by decide +kernel
theorem dL_law_128 : decode cL_law 128 = .ok (.iload 7, 2) := by decide +kernel
theorem dL_law_130 : decode cL_law 130 = .ok (.invokevirtual 112, 3) := by decide +kernel
theorem dL_law_133 : decode cL_law 133 = .ok (.ifCond .gt 20, 3) := by decide +kernel
theorem dL_law_136 : decode cL_law 136 = .ok (.aload_n 1, 1) := by decide +kernel
theorem dL_law_137 : decode cL_law 137 = .ok (.iload 7, 2) := by decide +kernel
theorem dL_law_139 : decode cL_law 139 = .ok (.invokevirtual 112, 3) := by decide +kernel
theorem dL_law_142 : decode cL_law 142 = .ok (.aload_n 1, 1) := by decide +kernel
theorem dL_law_143 : decode cL_law 143 = .ok (.aload_n 1, 1) := by decide +kernel
theorem dL_law_144 : decode cL_law 144 = .ok (.invokevirtual 115, 3) := by decide +kernel
theorem dL_law_147 : decode cL_law 147 = .ok (.invokevirtual 112, 3) := by decide +kernel
theorem dL_law_150 : decode cL_law 150 = .ok (.if_icmp .le 5, 3) := by decide +kernel
theorem dL_law_153 : decode cL_law 153 = .ok (.iconst 0, 1) := by decide +kernel
theorem dL_law_154 : decode cL_law 154 = .ok (.ireturn, 1) := by decide +kernel
theorem dL_law_155 : decode cL_law 155 = .ok (.iinc 7 1, 3) := by decide +kernel
theorem dL_law_158 : decode cL_law 158 = .ok (.goto (-37), 3) := by decide +kernel
theorem dL_law_161 : decode cL_law 161 = .ok (.aload_n 1, 1) := by decide +kernel
theorem dL_law_162 : decode cL_law 162 = .ok (.invokevirtual 118, 3) := by decide +kernel
theorem dL_law_165 : decode cL_law 165 = .ok (.istore 7, 2) := by decide +kernel
theorem dL_law_167 : decode cL_law 167 = .ok (.iload 7, 2) := by decide +kernel
theorem dL_law_169 : decode cL_law 169 = .ok (.aload_n 1, 1) := by decide +kernel
theorem dL_law_170 : decode cL_law 170 = .ok (.invokevirtual 100, 3) := by decide +kernel
theorem dL_law_173 : decode cL_law 173 = .ok (.if_icmp .lt 46, 3) := by decide +kernel
theorem dL_law_176 : decode cL_law 176 = .ok (.aload_n 1, 1) := by decide +kernel
theorem dL_law_177 : decode cL_law 177 = .ok (.iload 7, 2) := by decide +kernel
theorem dL_law_179 : decode cL_law 179 = .ok (.aload_n 1, 1) := by decide +kernel
theorem dL_law_180 : decode cL_law 180 = .ok (.invokevirtual 102, 3) := by decide +kernel
theorem dL_law_183 : decode cL_law 183 = .ok (.aload_n 1, 1) := by decide +kernel
theorem dL_law_184 : decode cL_law 184 = .ok (.invokevirtual 104, 3) := by decide +kernel
theorem dL_law_187 : decode cL_law 187 = .ok (.invokevirtual 106, 3) := by decide +kernel
theorem dL_law_190 : decode cL_law 190 = .ok (.ifCond .eq 29, 3) := by decide +kernel
theorem dL_law_193 : decode cL_law 193 = .ok (.iload 7, 2) := by decide +kernel
theorem dL_law_195 : decode cL_law 195 = .ok (.bipush 60, 2) := by decide +kernel
theorem dL_law_197 : decode cL_law 197 = .ok (.if_icmp .ge 24, 3) := by decide +kernel
theorem dL_law_200 : decode cL_law 200 = .ok (.aload_n 1, 1) := by decide +kernel
theorem dL_law_201 : decode cL_law 201 = .ok (.iload 7, 2) := by decide +kernel
theorem dL_law_203 : decode cL_law 203 = .ok (.iconst 1, 1) := by decide +kernel
theorem dL_law_204 : decode cL_law 204 = .ok (.iadd, 1) := by decide +kernel
theorem dL_law_205 : decode cL_law 205 = .ok (.aload_n 1, 1) := by decide +kernel
theorem dL_law_206 : decode cL_law 206 = .ok (.invokevirtual 102, 3) := by decide +kernel
theorem dL_law_209 : decode cL_law 209 = .ok (.aload_n 1, 1) := by decide +kernel
theorem dL_law_210 : decode cL_law 210 = .ok (.invokevirtual 104, 3) := by decide +kernel
theorem dL_law_213 : decode cL_law 213 = .ok (.invokevirtual 106, 3) := by decide +kernel
theorem dL_law_216 : decode cL_law 216 = .ok (.ifCond .eq 5, 3) := by decide +kernel
theorem dL_law_219 : decode cL_law 219 = .ok (.iconst 0, 1) := by decide +kernel
theorem dL_law_220 : decode cL_law 220 = .ok (.ireturn, 1) := by decide +kernel
theorem dL_law_221 : decode cL_law 221 = .ok (.iload 4, 2) := by decide +kernel
theorem dL_law_223 : decode cL_law 223 = .ok (.iconst 4, 1) := by decide +kernel
theorem dL_law_224 : decode cL_law 224 = .ok (.ishr, 1) := by decide +kernel
theorem dL_law_225 : decode cL_law 225 = .ok (.bipush 20, 2) := by decide +kernel
theorem dL_law_227 : decode cL_law 227 = .ok (.invokestatic 9, 3) := by decide +kernel
theorem dL_law_230 : decode cL_law 230 = .ok (.istore 8, 2) := by decide +kernel
theorem dL_law_232 : decode cL_law 232 = .ok (.iload 4, 2) := by decide +kernel
theorem dL_law_234 : decode cL_law 234 = .ok (.iconst 5, 1) := by decide +kernel
theorem dL_law_235 : decode cL_law 235 = .ok (.ishr, 1) := by decide +kernel
theorem dL_law_236 : decode cL_law 236 = .ok (.bipush 8, 2) := by decide +kernel
theorem dL_law_238 : decode cL_law 238 = .ok (.invokestatic 9, 3) := by decide +kernel
theorem dL_law_241 : decode cL_law 241 = .ok (.istore 9, 2) := by decide +kernel
theorem dL_law_243 : decode cL_law 243 = .ok (.iconst 3, 1) := by decide +kernel
theorem dL_law_244 : decode cL_law 244 = .ok (.iload 4, 2) := by decide +kernel
theorem dL_law_246 : decode cL_law 246 = .ok (.bipush 6, 2) := by decide +kernel
theorem dL_law_248 : decode cL_law 248 = .ok (.ishr, 1) := by decide +kernel
theorem dL_law_249 : decode cL_law 249 = .ok (.bipush 28, 2) := by decide +kernel
theorem dL_law_251 : decode cL_law 251 = .ok (.invokestatic 9, 3) := by decide +kernel
theorem dL_law_254 : decode cL_law 254 = .ok (.iadd, 1) := by decide +kernel
theorem dL_law_255 : decode cL_law 255 = .ok (.istore 10, 2) := by decide +kernel
theorem dL_law_257 : decode cL_law 257 = .ok (.aload_n 1, 1) := by decide +kernel
theorem dL_law_258 : decode cL_law 258 = .ok (.iload 8, 2) := by decide +kernel
theorem dL_law_260 : decode cL_law 260 = .ok (.iload 9, 2) := by decide +kernel
theorem dL_law_262 : decode cL_law 262 = .ok (.invokevirtual 121, 3) := by decide +kernel
theorem dL_law_265 : decode cL_law 265 = .ok (.istore 11, 2) := by decide +kernel
theorem dL_law_267 : decode cL_law 267 = .ok (.iload 11, 2) := by decide +kernel
theorem dL_law_269 : decode cL_law 269 = .ok (.iconst 3, 1) := by decide +kernel
theorem dL_law_270 : decode cL_law 270 = .ok (.if_icmp .lt 16, 3) := by decide +kernel
theorem dL_law_273 : decode cL_law 273 = .ok (.aload_n 1, 1) := by decide +kernel
theorem dL_law_274 : decode cL_law 274 = .ok (.iload 8, 2) := by decide +kernel
theorem dL_law_276 : decode cL_law 276 = .ok (.iload 9, 2) := by decide +kernel
theorem dL_law_278 : decode cL_law 278 = .ok (.iload 11, 2) := by decide +kernel
theorem dL_law_280 : decode cL_law 280 = .ok (.invokevirtual 106, 3) := by decide +kernel
theorem dL_law_283 : decode cL_law 283 = .ok (.ifCond .eq 47, 3) := by decide +kernel
theorem dL_law_286 : decode cL_law 286 = .ok (.iload 11, 2) := by decide +kernel
theorem dL_law_288 : decode cL_law 288 = .ok (.bipush 30, 2) := by decide +kernel
theorem dL_law_290 : decode cL_law 290 = .ok (.if_icmp .ge 28, 3) := by decide +kernel
theorem dL_law_293 : decode cL_law 293 = .ok (.aload_n 1, 1) := by decide +kernel
theorem dL_law_294 : decode cL_law 294 = .ok (.iload 8, 2) := by decide +kernel
theorem dL_law_296 : decode cL_law 296 = .ok (.iload 9, 2) := by decide +kernel
theorem dL_law_298 : decode cL_law 298 = .ok (.iload 11, 2) := by decide +kernel
theorem dL_law_300 : decode cL_law 300 = .ok (.iconst 3, 1) := by decide +kernel
theorem dL_law_301 : decode cL_law 301 = .ok (.if_icmp .ge 7, 3) := by decide +kernel
theorem dL_law_304 : decode cL_law 304 = .ok (.iconst 3, 1) := by decide +kernel
theorem dL_law_305 : decode cL_law 305 = .ok (.goto 7, 3) := by decide +kernel
theorem dL_law_308 : decode cL_law 308 = .ok (.iload 11, 2) := by decide +kernel
theorem dL_law_310 : decode cL_law 310 = .ok (.iconst 1, 1) := by decide +kernel
theorem dL_law_311 : decode cL_law 311 = .ok (.iadd, 1) := by decide +kernel
theorem dL_law_312 : decode cL_law 312 = .ok (.invokevirtual 106, 3) := by decide +kernel
theorem dL_law_315 : decode cL_law 315 = .ok (.ifCond .ne 15, 3) := by decide +kernel
theorem dL_law_318 : decode cL_law 318 = .ok (.iload 11, 2) := by decide +kernel
theorem dL_law_320 : decode cL_law 320 = .ok (.iconst (-1), 1) := by decide +kernel
theorem dL_law_321 : decode cL_law 321 = .ok (.if_icmp .eq 11, 3) := by decide +kernel
theorem dL_law_324 : decode cL_law 324 = .ok (.iload 11, 2) := by decide +kernel
theorem dL_law_326 : decode cL_law 326 = .ok (.iconst 3, 1) := by decide +kernel
theorem dL_law_327 : decode cL_law 327 = .ok (.if_icmp .ge 5, 3) := by decide +kernel
theorem dL_law_330 : decode cL_law 330 = .ok (.iconst 0, 1) := by decide +kernel
theorem dL_law_331 : decode cL_law 331 = .ok (.ireturn, 1) := by decide +kernel
theorem dL_law_332 : decode cL_law 332 = .ok (.iconst 0, 1) := by decide +kernel
theorem dL_law_333 : decode cL_law 333 = .ok (.istore 12, 2) := by decide +kernel
theorem dL_law_335 : decode cL_law 335 = .ok (.iconst 0, 1) := by decide +kernel
theorem dL_law_336 : decode cL_law 336 = .ok (.istore 13, 2) := by decide +kernel
theorem dL_law_338 : decode cL_law 338 = .ok (.iload 13, 2) := by decide +kernel
theorem dL_law_340 : decode cL_law 340 = .ok (.bipush 8, 2) := by decide +kernel
theorem dL_law_342 : decode cL_law 342 = .ok (.if_icmp .ge 32, 3) := by decide +kernel
theorem dL_law_345 : decode cL_law 345 = .ok (.iload 12, 2) := by decide +kernel
theorem dL_law_347 : decode cL_law 347 = .ok (.aload_n 1, 1) := by decide +kernel
theorem dL_law_348 : decode cL_law 348 = .ok (.iload 8, 2) := by decide +kernel
theorem dL_law_350 : decode cL_law 350 = .ok (.iload 13, 2) := by decide +kernel
theorem dL_law_352 : decode cL_law 352 = .ok (.iload 10, 2) := by decide +kernel
theorem dL_law_354 : decode cL_law 354 = .ok (.invokevirtual 106, 3) := by decide +kernel
theorem dL_law_357 : decode cL_law 357 = .ok (.ifCond .eq 7, 3) := by decide +kernel
theorem dL_law_360 : decode cL_law 360 = .ok (.iconst 1, 1) := by decide +kernel
theorem dL_law_361 : decode cL_law 361 = .ok (.goto 4, 3) := by decide +kernel
theorem dL_law_364 : decode cL_law 364 = .ok (.iconst 0, 1) := by decide +kernel
theorem dL_law_365 : decode cL_law 365 = .ok (.iadd, 1) := by decide +kernel
theorem dL_law_366 : decode cL_law 366 = .ok (.istore 12, 2) := by decide +kernel
theorem dL_law_368 : decode cL_law 368 = .ok (.iinc 13 1, 3) := by decide +kernel
theorem dL_law_371 : decode cL_law 371 = .ok (.goto (-33), 3) := by decide +kernel
theorem dL_law_374 : decode cL_law 374 = .ok (.aload_n 1, 1) := by decide +kernel
theorem dL_law_375 : decode cL_law 375 = .ok (.iload 8, 2) := by decide +kernel
theorem dL_law_377 : decode cL_law 377 = .ok (.iload 9, 2) := by decide +kernel
theorem dL_law_379 : decode cL_law 379 = .ok (.iload 10, 2) := by decide +kernel
theorem dL_law_381 : decode cL_law 381 = .ok (.invokevirtual 124, 3) := by decide +kernel
theorem dL_law_384 : decode cL_law 384 = .ok (.istore 13, 2) := by decide +kernel
theorem dL_law_386 : decode cL_law 386 = .ok (.iload 12, 2) := by decide +kernel
theorem dL_law_388 : decode cL_law 388 = .ok (.aload_n 1, 1) := by decide +kernel
theorem dL_law_389 : decode cL_law 389 = .ok (.iload 8, 2) := by decide +kernel
theorem dL_law_391 : decode cL_law 391 = .ok (.iload 10, 2) := by decide +kernel
theorem dL_law_393 : decode cL_law 393 = .ok (.invokevirtual 127, 3) := by decide +kernel
theorem dL_law_396 : decode cL_law 396 = .ok (.if_icmp .ne 30, 3) := by decide +kernel
theorem dL_law_399 : decode cL_law 399 = .ok (.aload_n 1, 1) := by decide +kernel
theorem dL_law_400 : decode cL_law 400 = .ok (.iload 8, 2) := by decide +kernel
theorem dL_law_402 : decode cL_law 402 = .ok (.iload 9, 2) := by decide +kernel
theorem dL_law_404 : decode cL_law 404 = .ok (.iload 10, 2) := by decide +kernel
theorem dL_law_406 : decode cL_law 406 = .ok (.invokevirtual 106, 3) := by decide +kernel
theorem dL_law_409 : decode cL_law 409 = .ok (.ifCond .eq 19, 3) := by decide +kernel
theorem dL_law_412 : decode cL_law 412 = .ok (.iload 13, 2) := by decide +kernel
theorem dL_law_414 : decode cL_law 414 = .ok (.ifCond .lt 12, 3) := by decide +kernel
theorem dL_law_417 : decode cL_law 417 = .ok (.iload 13, 2) := by decide +kernel
theorem dL_law_419 : decode cL_law 419 = .ok (.aload_n 1, 1) := by decide +kernel
theorem dL_law_420 : decode cL_law 420 = .ok (.invokevirtual 130, 3) := by decide +kernel
theorem dL_law_423 : decode cL_law 423 = .ok (.if_icmp .le 5, 3) := by decide +kernel
theorem dL_law_426 : decode cL_law 426 = .ok (.iconst 0, 1) := by decide +kernel
theorem dL_law_427 : decode cL_law 427 = .ok (.ireturn, 1) := by decide +kernel
theorem dL_law_428 : decode cL_law 428 = .ok (.iload 13, 2) := by decide +kernel
theorem dL_law_430 : decode cL_law 430 = .ok (.ifCond .lt 56, 3) := by decide +kernel
theorem dL_law_433 : decode cL_law 433 = .ok (.aload_n 2, 1) := by decide +kernel
theorem dL_law_434 : decode cL_law 434 = .ok (.iload 8, 2) := by decide +kernel
theorem dL_law_436 : decode cL_law 436 = .ok (.iload 9, 2) := by decide +kernel
theorem dL_law_438 : decode cL_law 438 = .ok (.iload 10, 2) := by decide +kernel
theorem dL_law_440 : decode cL_law 440 = .ok (.invokevirtual 132, 3) := by decide +kernel
theorem dL_law_443 : decode cL_law 443 = .ok (.astore 14, 2) := by decide +kernel
theorem dL_law_445 : decode cL_law 445 = .ok (.aload 14, 2) := by decide +kernel
theorem dL_law_447 : decode cL_law 447 = .ok (.iload 13, 2) := by decide +kernel
theorem dL_law_449 : decode cL_law 449 = .ok (.putfield 21, 3) := by decide +kernel
theorem dL_law_452 : decode cL_law 452 = .ok (.aload 14, 2) := by decide +kernel
theorem dL_law_454 : decode cL_law 454 = .ok (.invokevirtual 25, 3) := by decide +kernel
theorem dL_law_457 : decode cL_law 457 = .ok (.ifCond .ne 5, 3) := by decide +kernel
theorem dL_law_460 : decode cL_law 460 = .ok (.iconst 0, 1) := by decide +kernel
theorem dL_law_461 : decode cL_law 461 = .ok (.ireturn, 1) := by decide +kernel
theorem dL_law_462 : decode cL_law 462 = .ok (.aload 14, 2) := by decide +kernel
theorem dL_law_464 : decode cL_law 464 = .ok (.iload 13, 2) := by decide +kernel
theorem dL_law_466 : decode cL_law 466 = .ok (.iconst 1, 1) := by decide +kernel
theorem dL_law_467 : decode cL_law 467 = .ok (.isub, 1) := by decide +kernel
theorem dL_law_468 : decode cL_law 468 = .ok (.putfield 21, 3) := by decide +kernel
theorem dL_law_471 : decode cL_law 471 = .ok (.iload 13, 2) := by decide +kernel
theorem dL_law_473 : decode cL_law 473 = .ok (.ifCond .le 13, 3) := by decide +kernel
theorem dL_law_476 : decode cL_law 476 = .ok (.aload 14, 2) := by decide +kernel
theorem dL_law_478 : decode cL_law 478 = .ok (.invokevirtual 25, 3) := by decide +kernel
theorem dL_law_481 : decode cL_law 481 = .ok (.ifCond .eq 5, 3) := by decide +kernel
theorem dL_law_484 : decode cL_law 484 = .ok (.iconst 0, 1) := by decide +kernel
theorem dL_law_485 : decode cL_law 485 = .ok (.ireturn, 1) := by decide +kernel
theorem dL_law_486 : decode cL_law 486 = .ok (.iconst 0, 1) := by decide +kernel
theorem dL_law_487 : decode cL_law 487 = .ok (.istore 14, 2) := by decide +kernel
theorem dL_law_489 : decode cL_law 489 = .ok (.bipush 8, 2) := by decide +kernel
theorem dL_law_491 : decode cL_law 491 = .ok (.bipush 32, 2) := by decide +kernel
theorem dL_law_493 : decode cL_law 493 = .ok (.multianewarray 136 2, 4) := by decide +kernel
theorem dL_law_497 : decode cL_law 497 = .ok (.astore 15, 2) := by decide +kernel
theorem dL_law_499 : decode cL_law 499 = .ok (.aload 15, 2) := by decide +kernel
theorem dL_law_501 : decode cL_law 501 = .ok (.astore 16, 2) := by decide +kernel
theorem dL_law_503 : decode cL_law 503 = .ok (.aload 16, 2) := by decide +kernel
theorem dL_law_505 : decode cL_law 505 = .ok (.arraylength, 1) := by decide +kernel
theorem dL_law_506 : decode cL_law 506 = .ok (.istore 17, 2) := by decide +kernel
theorem dL_law_508 : decode cL_law 508 = .ok (.iconst 0, 1) := by decide +kernel
theorem dL_law_509 : decode cL_law 509 = .ok (.istore 18, 2) := by decide +kernel
theorem dL_law_511 : decode cL_law 511 = .ok (.iload 18, 2) := by decide +kernel
theorem dL_law_513 : decode cL_law 513 = .ok (.iload 17, 2) := by decide +kernel
theorem dL_law_515 : decode cL_law 515 = .ok (.if_icmp .ge 38, 3) := by decide +kernel
theorem dL_law_518 : decode cL_law 518 = .ok (.aload 16, 2) := by decide +kernel
theorem dL_law_520 : decode cL_law 520 = .ok (.iload 18, 2) := by decide +kernel
theorem dL_law_522 : decode cL_law 522 = .ok (.aaload, 1) := by decide +kernel
theorem dL_law_523 : decode cL_law 523 = .ok (.astore 19, 2) := by decide +kernel
theorem dL_law_525 : decode cL_law 525 = .ok (.iconst 0, 1) := by decide +kernel
theorem dL_law_526 : decode cL_law 526 = .ok (.istore 20, 2) := by decide +kernel
theorem dL_law_528 : decode cL_law 528 = .ok (.iload 20, 2) := by decide +kernel
theorem dL_law_530 : decode cL_law 530 = .ok (.bipush 32, 2) := by decide +kernel
theorem dL_law_532 : decode cL_law 532 = .ok (.if_icmp .ge 15, 3) := by decide +kernel
theorem dL_law_535 : decode cL_law 535 = .ok (.aload 19, 2) := by decide +kernel
theorem dL_law_537 : decode cL_law 537 = .ok (.iload 20, 2) := by decide +kernel
theorem dL_law_539 : decode cL_law 539 = .ok (.iconst (-1), 1) := by decide +kernel
theorem dL_law_540 : decode cL_law 540 = .ok (.iastore, 1) := by decide +kernel
theorem dL_law_541 : decode cL_law 541 = .ok (.iinc 20 1, 3) := by decide +kernel
theorem dL_law_544 : decode cL_law 544 = .ok (.goto (-16), 3) := by decide +kernel
theorem dL_law_547 : decode cL_law 547 = .ok (.iinc 18 1, 3) := by decide +kernel
theorem dL_law_550 : decode cL_law 550 = .ok (.goto (-39), 3) := by decide +kernel
theorem dL_law_553 : decode cL_law 553 = .ok (.iconst 0, 1) := by decide +kernel
theorem dL_law_554 : decode cL_law 554 = .ok (.istore 16, 2) := by decide +kernel
theorem dL_law_556 : decode cL_law 556 = .ok (.iload 16, 2) := by decide +kernel
theorem dL_law_558 : decode cL_law 558 = .ok (.bipush 8, 2) := by decide +kernel
theorem dL_law_560 : decode cL_law 560 = .ok (.if_icmp .ge 43, 3) := by decide +kernel
theorem dL_law_563 : decode cL_law 563 = .ok (.iconst 3, 1) := by decide +kernel
theorem dL_law_564 : decode cL_law 564 = .ok (.istore 17, 2) := by decide +kernel
theorem dL_law_566 : decode cL_law 566 = .ok (.iload 17, 2) := by decide +kernel
theorem dL_law_568 : decode cL_law 568 = .ok (.bipush 31, 2) := by decide +kernel
theorem dL_law_570 : decode cL_law 570 = .ok (.if_icmp .ge 27, 3) := by decide +kernel
theorem dL_law_573 : decode cL_law 573 = .ok (.aload 15, 2) := by decide +kernel
theorem dL_law_575 : decode cL_law 575 = .ok (.iload 16, 2) := by decide +kernel
theorem dL_law_577 : decode cL_law 577 = .ok (.aaload, 1) := by decide +kernel
theorem dL_law_578 : decode cL_law 578 = .ok (.iload 17, 2) := by decide +kernel
theorem dL_law_580 : decode cL_law 580 = .ok (.aload_n 1, 1) := by decide +kernel
theorem dL_law_581 : decode cL_law 581 = .ok (.iload 8, 2) := by decide +kernel
theorem dL_law_583 : decode cL_law 583 = .ok (.iload 16, 2) := by decide +kernel
theorem dL_law_585 : decode cL_law 585 = .ok (.iload 17, 2) := by decide +kernel
theorem dL_law_587 : decode cL_law 587 = .ok (.invokevirtual 138, 3) := by decide +kernel
theorem dL_law_590 : decode cL_law 590 = .ok (.iastore, 1) := by decide +kernel
theorem dL_law_591 : decode cL_law 591 = .ok (.iinc 17 1, 3) := by decide +kernel
theorem dL_law_594 : decode cL_law 594 = .ok (.goto (-28), 3) := by decide +kernel
theorem dL_law_597 : decode cL_law 597 = .ok (.iinc 16 1, 3) := by decide +kernel
theorem dL_law_600 : decode cL_law 600 = .ok (.goto (-44), 3) := by decide +kernel
theorem dL_law_603 : decode cL_law 603 = .ok (.iconst 0, 1) := by decide +kernel
theorem dL_law_604 : decode cL_law 604 = .ok (.istore 16, 2) := by decide +kernel
theorem dL_law_606 : decode cL_law 606 = .ok (.iload 16, 2) := by decide +kernel
theorem dL_law_608 : decode cL_law 608 = .ok (.bipush 8, 2) := by decide +kernel
theorem dL_law_610 : decode cL_law 610 = .ok (.if_icmp .ge 189, 3) := by decide +kernel
theorem dL_law_613 : decode cL_law 613 = .ok (.iconst 3, 1) := by decide +kernel
theorem dL_law_614 : decode cL_law 614 = .ok (.istore 17, 2) := by decide +kernel
theorem dL_law_616 : decode cL_law 616 = .ok (.iload 17, 2) := by decide +kernel
theorem dL_law_618 : decode cL_law 618 = .ok (.bipush 31, 2) := by decide +kernel
theorem dL_law_620 : decode cL_law 620 = .ok (.if_icmp .ge 173, 3) := by decide +kernel
theorem dL_law_623 : decode cL_law 623 = .ok (.aload 15, 2) := by decide +kernel
theorem dL_law_625 : decode cL_law 625 = .ok (.iload 16, 2) := by decide +kernel
theorem dL_law_627 : decode cL_law 627 = .ok (.aaload, 1) := by decide +kernel
theorem dL_law_628 : decode cL_law 628 = .ok (.iload 17, 2) := by decide +kernel
theorem dL_law_630 : decode cL_law 630 = .ok (.iaload, 1) := by decide +kernel
theorem dL_law_631 : decode cL_law 631 = .ok (.istore 18, 2) := by decide +kernel
theorem dL_law_633 : decode cL_law 633 = .ok (.iload 18, 2) := by decide +kernel
theorem dL_law_635 : decode cL_law 635 = .ok (.ifCond .ge 6, 3) := by decide +kernel
theorem dL_law_638 : decode cL_law 638 = .ok (.goto 149, 3) := by decide +kernel
theorem dL_law_641 : decode cL_law 641 = .ok (.iinc 14 1, 3) := by decide +kernel
theorem dL_law_644 : decode cL_law 644 = .ok (.iload 18, 2) := by decide +kernel
theorem dL_law_646 : decode cL_law 646 = .ok (.ifCond .eq 78, 3) := by decide +kernel
theorem dL_law_649 : decode cL_law 649 = .ok (.aload 15, 2) := by decide +kernel
theorem dL_law_651 : decode cL_law 651 = .ok (.iload 16, 2) := by decide +kernel
theorem dL_law_653 : decode cL_law 653 = .ok (.iconst 1, 1) := by decide +kernel
theorem dL_law_654 : decode cL_law 654 = .ok (.iadd, 1) := by decide +kernel
theorem dL_law_655 : decode cL_law 655 = .ok (.bipush 8, 2) := by decide +kernel
theorem dL_law_657 : decode cL_law 657 = .ok (.irem, 1) := by decide +kernel
theorem dL_law_658 : decode cL_law 658 = .ok (.aaload, 1) := by decide +kernel
theorem dL_law_659 : decode cL_law 659 = .ok (.iload 17, 2) := by decide +kernel
theorem dL_law_661 : decode cL_law 661 = .ok (.iaload, 1) := by decide +kernel
theorem dL_law_662 : decode cL_law 662 = .ok (.iload 18, 2) := by decide +kernel
theorem dL_law_664 : decode cL_law 664 = .ok (.iconst 1, 1) := by decide +kernel
theorem dL_law_665 : decode cL_law 665 = .ok (.isub, 1) := by decide +kernel
theorem dL_law_666 : decode cL_law 666 = .ok (.if_icmp .eq 58, 3) := by decide +kernel
theorem dL_law_669 : decode cL_law 669 = .ok (.aload 15, 2) := by decide +kernel
theorem dL_law_671 : decode cL_law 671 = .ok (.iload 16, 2) := by decide +kernel
theorem dL_law_673 : decode cL_law 673 = .ok (.bipush 7, 2) := by decide +kernel
theorem dL_law_675 : decode cL_law 675 = .ok (.iadd, 1) := by decide +kernel
theorem dL_law_676 : decode cL_law 676 = .ok (.bipush 8, 2) := by decide +kernel
theorem dL_law_678 : decode cL_law 678 = .ok (.irem, 1) := by decide +kernel
theorem dL_law_679 : decode cL_law 679 = .ok (.aaload, 1) := by decide +kernel
theorem dL_law_680 : decode cL_law 680 = .ok (.iload 17, 2) := by decide +kernel
theorem dL_law_682 : decode cL_law 682 = .ok (.iaload, 1) := by decide +kernel
theorem dL_law_683 : decode cL_law 683 = .ok (.iload 18, 2) := by decide +kernel
theorem dL_law_685 : decode cL_law 685 = .ok (.iconst 1, 1) := by decide +kernel
theorem dL_law_686 : decode cL_law 686 = .ok (.isub, 1) := by decide +kernel
theorem dL_law_687 : decode cL_law 687 = .ok (.if_icmp .eq 37, 3) := by decide +kernel
theorem dL_law_690 : decode cL_law 690 = .ok (.aload 15, 2) := by decide +kernel
theorem dL_law_692 : decode cL_law 692 = .ok (.iload 16, 2) := by decide +kernel
theorem dL_law_694 : decode cL_law 694 = .ok (.aaload, 1) := by decide +kernel
theorem dL_law_695 : decode cL_law 695 = .ok (.iload 17, 2) := by decide +kernel
theorem dL_law_697 : decode cL_law 697 = .ok (.iconst 1, 1) := by decide +kernel
theorem dL_law_698 : decode cL_law 698 = .ok (.iadd, 1) := by decide +kernel
theorem dL_law_699 : decode cL_law 699 = .ok (.iaload, 1) := by decide +kernel
theorem dL_law_700 : decode cL_law 700 = .ok (.iload 18, 2) := by decide +kernel
theorem dL_law_702 : decode cL_law 702 = .ok (.iconst 1, 1) := by decide +kernel
theorem dL_law_703 : decode cL_law 703 = .ok (.isub, 1) := by decide +kernel
theorem dL_law_704 : decode cL_law 704 = .ok (.if_icmp .eq 20, 3) := by decide +kernel
theorem dL_law_707 : decode cL_law 707 = .ok (.aload 15, 2) := by decide +kernel
theorem dL_law_709 : decode cL_law 709 = .ok (.iload 16, 2) := by decide +kernel
theorem dL_law_711 : decode cL_law 711 = .ok (.aaload, 1) := by decide +kernel
theorem dL_law_712 : decode cL_law 712 = .ok (.iload 17, 2) := by decide +kernel
theorem dL_law_714 : decode cL_law 714 = .ok (.iconst 1, 1) := by decide +kernel
theorem dL_law_715 : decode cL_law 715 = .ok (.isub, 1) := by decide +kernel
theorem dL_law_716 : decode cL_law 716 = .ok (.iaload, 1) := by decide +kernel
theorem dL_law_717 : decode cL_law 717 = .ok (.iload 18, 2) := by decide +kernel
theorem dL_law_719 : decode cL_law 719 = .ok (.iconst 1, 1) := by decide +kernel
theorem dL_law_720 : decode cL_law 720 = .ok (.isub, 1) := by decide +kernel
theorem dL_law_721 : decode cL_law 721 = .ok (.if_icmp .ne 7, 3) := by decide +kernel
theorem dL_law_724 : decode cL_law 724 = .ok (.iconst 1, 1) := by decide +kernel
theorem dL_law_725 : decode cL_law 725 = .ok (.goto 4, 3) := by decide +kernel
theorem dL_law_728 : decode cL_law 728 = .ok (.iconst 0, 1) := by decide +kernel
theorem dL_law_729 : decode cL_law 729 = .ok (.istore 19, 2) := by decide +kernel
theorem dL_law_731 : decode cL_law 731 = .ok (.iload 19, 2) := by decide +kernel
theorem dL_law_733 : decode cL_law 733 = .ok (.ifCond .eq 52, 3) := by decide +kernel
theorem dL_law_736 : decode cL_law 736 = .ok (.aload_n 1, 1) := by decide +kernel
theorem dL_law_737 : decode cL_law 737 = .ok (.iload 8, 2) := by decide +kernel
theorem dL_law_739 : decode cL_law 739 = .ok (.iload 16, 2) := by decide +kernel
theorem dL_law_741 : decode cL_law 741 = .ok (.iload 17, 2) := by decide +kernel
theorem dL_law_743 : decode cL_law 743 = .ok (.invokevirtual 106, 3) := by decide +kernel
theorem dL_law_746 : decode cL_law 746 = .ok (.ifCond .eq 39, 3) := by decide +kernel
theorem dL_law_749 : decode cL_law 749 = .ok (.iload 18, 2) := by decide +kernel
theorem dL_law_751 : decode cL_law 751 = .ok (.ifCond .ne 7, 3) := by decide +kernel
theorem dL_law_754 : decode cL_law 754 = .ok (.iconst 1, 1) := by decide +kernel
theorem dL_law_755 : decode cL_law 755 = .ok (.goto 4, 3) := by decide +kernel
theorem dL_law_758 : decode cL_law 758 = .ok (.iconst 0, 1) := by decide +kernel
theorem dL_law_759 : decode cL_law 759 = .ok (.iload 16, 2) := by decide +kernel
theorem dL_law_761 : decode cL_law 761 = .ok (.aload_n 1, 1) := by decide +kernel
theorem dL_law_762 : decode cL_law 762 = .ok (.invokevirtual 102, 3) := by decide +kernel
theorem dL_law_765 : decode cL_law 765 = .ok (.if_icmp .ne 16, 3) := by decide +kernel
theorem dL_law_768 : decode cL_law 768 = .ok (.iload 17, 2) := by decide +kernel
theorem dL_law_770 : decode cL_law 770 = .ok (.aload_n 1, 1) := by decide +kernel
theorem dL_law_771 : decode cL_law 771 = .ok (.invokevirtual 104, 3) := by decide +kernel
theorem dL_law_774 : decode cL_law 774 = .ok (.if_icmp .ne 7, 3) := by decide +kernel
theorem dL_law_777 : decode cL_law 777 = .ok (.iconst 1, 1) := by decide +kernel
theorem dL_law_778 : decode cL_law 778 = .ok (.goto 4, 3) := by decide +kernel
theorem dL_law_781 : decode cL_law 781 = .ok (.iconst 0, 1) := by decide +kernel
theorem dL_law_782 : decode cL_law 782 = .ok (.if_icmp .eq 5, 3) := by decide +kernel
theorem dL_law_785 : decode cL_law 785 = .ok (.iconst 0, 1) := by decide +kernel
theorem dL_law_786 : decode cL_law 786 = .ok (.ireturn, 1) := by decide +kernel
theorem dL_law_787 : decode cL_law 787 = .ok (.iinc 17 1, 3) := by decide +kernel
theorem dL_law_790 : decode cL_law 790 = .ok (.goto (-174), 3) := by decide +kernel
theorem dL_law_793 : decode cL_law 793 = .ok (.iinc 16 1, 3) := by decide +kernel
theorem dL_law_796 : decode cL_law 796 = .ok (.goto (-190), 3) := by decide +kernel
theorem dL_law_799 : decode cL_law 799 = .ok (.aload_n 1, 1) := by decide +kernel
theorem dL_law_800 : decode cL_law 800 = .ok (.iload 8, 2) := by decide +kernel
theorem dL_law_802 : decode cL_law 802 = .ok (.invokevirtual 141, 3) := by decide +kernel
theorem dL_law_805 : decode cL_law 805 = .ok (.istore 16, 2) := by decide +kernel
theorem dL_law_807 : decode cL_law 807 = .ok (.iload 14, 2) := by decide +kernel
theorem dL_law_809 : decode cL_law 809 = .ok (.aload_n 1, 1) := by decide +kernel
theorem dL_law_810 : decode cL_law 810 = .ok (.iload 8, 2) := by decide +kernel
theorem dL_law_812 : decode cL_law 812 = .ok (.invokevirtual 144, 3) := by decide +kernel
theorem dL_law_815 : decode cL_law 815 = .ok (.if_icmp .ne 68, 3) := by decide +kernel
theorem dL_law_818 : decode cL_law 818 = .ok (.iload 14, 2) := by decide +kernel
theorem dL_law_820 : decode cL_law 820 = .ok (.ifCond .le 7, 3) := by decide +kernel
theorem dL_law_823 : decode cL_law 823 = .ok (.iconst 1, 1) := by decide +kernel
theorem dL_law_824 : decode cL_law 824 = .ok (.goto 4, 3) := by decide +kernel
theorem dL_law_827 : decode cL_law 827 = .ok (.iconst 0, 1) := by decide +kernel
theorem dL_law_828 : decode cL_law 828 = .ok (.aload_n 1, 1) := by decide +kernel
theorem dL_law_829 : decode cL_law 829 = .ok (.iload 8, 2) := by decide +kernel
theorem dL_law_831 : decode cL_law 831 = .ok (.aload_n 1, 1) := by decide +kernel
theorem dL_law_832 : decode cL_law 832 = .ok (.invokevirtual 102, 3) := by decide +kernel
theorem dL_law_835 : decode cL_law 835 = .ok (.aload_n 1, 1) := by decide +kernel
theorem dL_law_836 : decode cL_law 836 = .ok (.invokevirtual 104, 3) := by decide +kernel
theorem dL_law_839 : decode cL_law 839 = .ok (.invokevirtual 106, 3) := by decide +kernel
theorem dL_law_842 : decode cL_law 842 = .ok (.if_icmp .ne 41, 3) := by decide +kernel
theorem dL_law_845 : decode cL_law 845 = .ok (.iload 16, 2) := by decide +kernel
theorem dL_law_847 : decode cL_law 847 = .ok (.iconst (-1), 1) := by decide +kernel
theorem dL_law_848 : decode cL_law 848 = .ok (.if_icmp .lt 35, 3) := by decide +kernel
theorem dL_law_851 : decode cL_law 851 = .ok (.iload 16, 2) := by decide +kernel
theorem dL_law_853 : decode cL_law 853 = .ok (.iconst 3, 1) := by decide +kernel
theorem dL_law_854 : decode cL_law 854 = .ok (.if_icmp .gt 29, 3) := by decide +kernel
theorem dL_law_857 : decode cL_law 857 = .ok (.iload 16, 2) := by decide +kernel
theorem dL_law_859 : decode cL_law 859 = .ok (.ifCond .lt 14, 3) := by decide +kernel
theorem dL_law_862 : decode cL_law 862 = .ok (.aload_n 1, 1) := by decide +kernel
theorem dL_law_863 : decode cL_law 863 = .ok (.iload 16, 2) := by decide +kernel
theorem dL_law_865 : decode cL_law 865 = .ok (.invokevirtual 147, 3) := by decide +kernel
theorem dL_law_868 : decode cL_law 868 = .ok (.bipush 6, 2) := by decide +kernel
theorem dL_law_870 : decode cL_law 870 = .ok (.if_icmp .eq 13, 3) := by decide +kernel
theorem dL_law_873 : decode cL_law 873 = .ok (.aload_n 1, 1) := by decide +kernel
theorem dL_law_874 : decode cL_law 874 = .ok (.invokevirtual 96, 3) := by decide +kernel
theorem dL_law_877 : decode cL_law 877 = .ok (.lload 5, 2) := by decide +kernel
theorem dL_law_879 : decode cL_law 879 = .ok (.lcmp, 1) := by decide +kernel
theorem dL_law_880 : decode cL_law 880 = .ok (.ifCond .eq 5, 3) := by decide +kernel
theorem dL_law_883 : decode cL_law 883 = .ok (.iconst 0, 1) := by decide +kernel
theorem dL_law_884 : decode cL_law 884 = .ok (.ireturn, 1) := by decide +kernel
theorem dL_law_885 : decode cL_law 885 = .ok (.iinc 3 1, 3) := by decide +kernel
theorem dL_law_888 : decode cL_law 888 = .ok (.goto (-870), 3) := by decide +kernel
theorem dL_law_891 : decode cL_law 891 = .ok (.aload_n 2, 1) := by decide +kernel
theorem dL_law_892 : decode cL_law 892 = .ok (.aload_n 1, 1) := by decide +kernel
theorem dL_law_893 : decode cL_law 893 = .ok (.invokevirtual 150, 3) := by decide +kernel
theorem dL_law_896 : decode cL_law 896 = .ok (.ireturn, 1) := by decide +kernel
/-! ===== END printed: names ===== -/
