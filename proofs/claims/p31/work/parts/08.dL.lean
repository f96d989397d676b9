theorem dL_below_0 : decode cL_below 0 = .ok (.iload_n 0, 1) := by decide +kernel
theorem dL_below_1 : decode cL_below 1 = .ok (.ldc 7, 2) := by decide +kernel
theorem dL_below_3 : decode cL_below 3 = .ok (.iand, 1) := by decide +kernel
theorem dL_below_4 : decode cL_below 4 = .ok (.iload_n 1, 1) := by decide +kernel
theorem dL_below_5 : decode cL_below 5 = .ok (.irem, 1) := by decide +kernel
theorem dL_below_6 : decode cL_below 6 = .ok (.ireturn, 1) := by decide +kernel
theorem dL_cell_0 : decode cL_cell 0 = .ok (.iload_n 1, 1) := by decide +kernel
theorem dL_cell_1 : decode cL_cell 1 = .ok (.aload_n 0, 1) := by decide +kernel
theorem dL_cell_2 : decode cL_cell 2 = .ok (.arraylength, 1) := by decide +kernel
theorem dL_cell_3 : decode cL_cell 3 = .ok (.if_icmp .ge 9, 3) := by decide +kernel
theorem dL_cell_6 : decode cL_cell 6 = .ok (.aload_n 0, 1) := by decide +kernel
theorem dL_cell_7 : decode cL_cell 7 = .ok (.iload_n 1, 1) := by decide +kernel
theorem dL_cell_8 : decode cL_cell 8 = .ok (.iaload, 1) := by decide +kernel
theorem dL_cell_9 : decode cL_cell 9 = .ok (.goto 9, 3) := by decide +kernel
theorem dL_cell_12 : decode cL_cell 12 = .ok (.ldc 8, 2) := by decide +kernel
theorem dL_cell_14 : decode cL_cell 14 = .ok (.iload_n 1, 1) := by decide +kernel
theorem dL_cell_15 : decode cL_cell 15 = .ok (.iconst 3, 1) := by decide +kernel
theorem dL_cell_16 : decode cL_cell 16 = .ok (.iadd, 1) := by decide +kernel
theorem dL_cell_17 : decode cL_cell 17 = .ok (.imul, 1) := by decide +kernel
theorem dL_cell_18 : decode cL_cell 18 = .ok (.ireturn, 1) := by decide +kernel
set_option maxRecDepth 20000 in
theorem ggL_act_L_below : GoodIn wsL_act wsL_below := goodIn_r _ [13, 14] (by decide +kernel) (by decide +kernel)
set_option maxRecDepth 20000 in
theorem gL_act_L_below : GoodIn wsL_act (va_wsS RL 9 yL_below wsL_below) := goodIn_app (goodIn_of _ (by decide +kernel)) ggL_act_L_below
set_option maxRecDepth 20000 in
theorem ggL_act_X3_copy : GoodIn wsL_act wsX3_copy := goodIn_r _ [19, 20, 21, 18, 22, 23, 24, 25, 26, 27, 28, 29, 30, 31, 32, 33, 34, 35, 36, 37, 38, 39, 40, 41, 42, 43, 172, 173, 174, 175, 176, 177, 178, 179, 180] (by decide +kernel) (by decide +kernel)
set_option maxRecDepth 20000 in
theorem gL_act_X3_copy : GoodIn wsL_act (wsV RL 15 RX3 yX3_copy wsX3_copy) := goodIn_app (goodIn_of _ (by decide +kernel)) ggL_act_X3_copy
set_option maxRecDepth 20000 in
theorem ggL_act_X3_isSafe : GoodIn wsL_act wsX3_isSafe := goodIn_r _ [47, 24, 33, 23, 48, 49, 50, 18, 51, 43, 22, 26, 25, 172, 173, 174, 175, 176, 177, 178, 179, 180] (by decide +kernel) (by decide +kernel)
set_option maxRecDepth 20000 in
theorem gL_act_X3_isSafe : GoodIn wsL_act (wsV RL 25 RX3 yX3_isSafe wsX3_isSafe) := goodIn_app (goodIn_of _ (by decide +kernel)) ggL_act_X3_isSafe
set_option maxRecDepth 20000 in
theorem ggL_act_X2_setPlates : GoodIn wsL_act wsX2_setPlates := goodIn_ca (goodIn_ca (goodIn_r _ [56, 57, 58, 59, 60, 61, 62, 63, 64, 55, 65, 66, 67, 68, 69, 70, 71, 72, 73, 74, 75, 76, 77, 78, 79, 80, 81, 82, 83, 84, 85, 86, 87, 88, 89, 90, 91, 92, 93, 94, 95, 96, 97, 98, 99, 100, 101, 102, 103, 104, 105, 106, 107, 108, 181, 182, 183, 184, 185, 186, 187, 188, 189, 190, 191, 192] (by decide +kernel) (by decide +kernel)) (goodIn_sub (fun _ h => List.mem_cons_of_mem _ (List.mem_append_left _ (List.mem_append_left _ (List.mem_append_right _ h)))) (by decide +kernel))) (goodIn_sub (fun _ h => List.mem_cons_of_mem _ (List.mem_append_left _ (List.mem_append_right _ h))) (by decide +kernel))
set_option maxRecDepth 20000 in
theorem gL_act_X2_setPlates : GoodIn wsL_act (wsV RL 29 RX2 yX2_setPlates wsX2_setPlates) := goodIn_app (goodIn_of _ (by decide +kernel)) ggL_act_X2_setPlates
set_option maxRecDepth 20000 in
theorem ggL_act_X2_setOutrigger : GoodIn wsL_act wsX2_setOutrigger := goodIn_ca (goodIn_ca (goodIn_ca (goodIn_r _ [112, 57, 58, 59, 60, 62, 113, 114, 55, 115, 116, 117, 63, 64, 65, 118, 119, 120, 121, 94, 95, 66, 67, 68, 69, 70, 71, 72, 73, 74, 75, 76, 77, 78, 79, 80, 81, 82, 83, 84, 85, 86, 87, 88, 89, 122, 90, 91, 92, 93, 96, 97, 98, 99, 100, 101, 102, 103, 104, 105, 106, 107, 108, 123, 181, 182, 183, 184, 185, 186, 187, 188, 189, 190, 191, 192] (by decide +kernel) (by decide +kernel)) (goodIn_sub (fun _ h => List.mem_cons_of_mem _ (List.mem_append_left _ (List.mem_append_left _ (List.mem_append_right _ h)))) (by decide +kernel))) (goodIn_sub (fun _ h => List.mem_cons_of_mem _ (List.mem_append_right _ h)) (by decide +kernel))) (goodIn_sub (fun _ h => List.mem_cons_of_mem _ (List.mem_append_left _ (List.mem_append_right _ h))) (by decide +kernel))
set_option maxRecDepth 20000 in
theorem gL_act_X2_setOutrigger : GoodIn wsL_act (wsV RL 42 RX2 yX2_setOutrigger wsX2_setOutrigger) := goodIn_app (goodIn_of _ (by decide +kernel)) ggL_act_X2_setOutrigger
set_option maxRecDepth 20000 in
theorem ggL_act_X2_setLimit : GoodIn wsL_act wsX2_setLimit := goodIn_ca (goodIn_ca (goodIn_r _ [127, 57, 58, 59, 60, 62, 128, 129, 55, 130, 131, 132, 133, 63, 64, 65, 66, 67, 68, 69, 70, 71, 72, 73, 74, 75, 76, 77, 78, 79, 80, 81, 82, 83, 84, 85, 86, 87, 88, 89, 134, 90, 91, 92, 93, 94, 95, 96, 97, 98, 99, 100, 101, 102, 103, 104, 105, 106, 107, 108, 135, 181, 182, 183, 184, 185, 186, 187, 188, 189, 190, 191, 192] (by decide +kernel) (by decide +kernel)) (goodIn_sub (fun _ h => List.mem_cons_of_mem _ (List.mem_append_left _ (List.mem_append_left _ (List.mem_append_right _ h)))) (by decide +kernel))) (goodIn_sub (fun _ h => List.mem_cons_of_mem _ (List.mem_append_left _ (List.mem_append_right _ h))) (by decide +kernel))
set_option maxRecDepth 20000 in
theorem gL_act_X2_setLimit : GoodIn wsL_act (wsV RL 51 RX2 yX2_setLimit wsX2_setLimit) := goodIn_app (goodIn_of _ (by decide +kernel)) ggL_act_X2_setLimit
set_option maxRecDepth 20000 in
theorem ggL_act_X3_isSafe_ : GoodIn wsL_act wsX3_isSafe_ := goodIn_r _ [139, 43, 24, 22, 23, 140, 45, 46, 18, 47, 33, 48, 49, 50, 51, 26, 25, 172, 173, 174, 175, 176, 177, 178, 179, 180] (by decide +kernel) (by decide +kernel)
set_option maxRecDepth 20000 in
theorem gL_act_X3_isSafe_ : GoodIn wsL_act (wsV RL 57 RX3 yX3_isSafe_ wsX3_isSafe_) := goodIn_app (goodIn_of _ (by decide +kernel)) ggL_act_X3_isSafe_
set_option maxRecDepth 20000 in
theorem ggL_act_X2_lift : GoodIn wsL_act wsX2_lift := goodIn_ca (goodIn_ca (goodIn_r _ [144, 57, 58, 60, 62, 145, 146, 63, 64, 55, 65, 118, 119, 120, 121, 94, 95, 90, 91, 92, 93, 96, 97, 98, 99, 100, 69, 101, 81, 82, 83, 84, 85, 102, 103, 104, 105, 71, 72, 73, 74, 75, 76, 106, 107, 108, 181, 182, 183, 184, 185, 186, 187, 188, 189, 190, 191, 192] (by decide +kernel) (by decide +kernel)) (goodIn_sub (fun _ h => List.mem_cons_of_mem _ (List.mem_append_left _ (List.mem_append_left _ (List.mem_append_right _ h)))) (by decide +kernel))) (goodIn_sub (fun _ h => List.mem_cons_of_mem _ (List.mem_append_left _ (List.mem_append_right _ h))) (by decide +kernel))
set_option maxRecDepth 20000 in
theorem gL_act_X2_lift : GoodIn wsL_act (wsV RL 66 RX2 yX2_lift wsX2_lift) := goodIn_app (goodIn_of _ (by decide +kernel)) ggL_act_X2_lift
set_option maxRecDepth 20000 in
theorem ggL_act_X2_setDown : GoodIn wsL_act wsX2_setDown := goodIn_ca (goodIn_r _ [150, 94, 95, 62, 60, 90, 91, 92, 55, 93, 96, 97, 98, 99, 100, 69, 101, 81, 82, 83, 84, 85, 102, 103, 104, 105, 71, 72, 73, 74, 75, 76, 106, 107, 108, 181, 182, 183, 184, 185, 186, 187, 188, 189, 190, 191, 192] (by decide +kernel) (by decide +kernel)) (goodIn_sub (fun _ h => List.mem_cons_of_mem _ (List.mem_append_left _ (List.mem_append_right _ h))) (by decide +kernel))
set_option maxRecDepth 20000 in
theorem gL_act_X2_setDown : GoodIn wsL_act (wsV RL 69 RX2 yX2_setDown wsX2_setDown) := goodIn_app (goodIn_of _ (by decide +kernel)) ggL_act_X2_setDown
set_option maxRecDepth 20000 in
theorem ggL_act_X2_swing : GoodIn wsL_act wsX2_swing := goodIn_ca (goodIn_r _ [154, 57, 58, 60, 62, 96, 97, 63, 64, 55, 65, 155, 156, 157, 98, 99, 100, 69, 101, 81, 82, 83, 84, 85, 102, 103, 104, 105, 71, 72, 73, 74, 75, 76, 106, 107, 108, 158, 159, 160, 161, 162, 181, 182, 183, 184, 185, 186, 187, 188, 189, 190, 191, 192] (by decide +kernel) (by decide +kernel)) (goodIn_sub (fun _ h => List.mem_cons_of_mem _ (List.mem_append_left _ (List.mem_append_left _ (List.mem_append_right _ h)))) (by decide +kernel))
set_option maxRecDepth 20000 in
theorem gL_act_X2_swing : GoodIn wsL_act (wsV RL 73 RX2 yX2_swing wsX2_swing) := goodIn_app (goodIn_of _ (by decide +kernel)) ggL_act_X2_swing
set_option maxRecDepth 20000 in
theorem ggL_act_X3_move : GoodIn wsL_act wsX3_move := goodIn_r _ [166, 23, 22, 24, 36, 167, 137, 138, 18, 139, 43, 140, 45, 46, 47, 33, 48, 49, 50, 51, 26, 25, 172, 173, 174, 175, 176, 177, 178, 179, 180] (by decide +kernel) (by decide +kernel)
set_option maxRecDepth 20000 in
theorem gL_act_X3_move : GoodIn wsL_act (wsV RL 77 RX3 yX3_move wsX3_move) := goodIn_app (goodIn_of _ (by decide +kernel)) ggL_act_X3_move
set_option maxRecDepth 20000 in
theorem ggL_act_X2_stretch : GoodIn wsL_act wsX2_stretch := goodIn_ca (goodIn_r _ [171, 57, 58, 97, 60, 62, 96, 63, 64, 55, 65, 131, 132, 133, 98, 99, 100, 69, 101, 81, 82, 83, 84, 85, 102, 103, 104, 105, 71, 72, 73, 74, 75, 76, 106, 107, 108, 158, 159, 160, 161, 162, 181, 182, 183, 184, 185, 186, 187, 188, 189, 190, 191, 192] (by decide +kernel) (by decide +kernel)) (goodIn_sub (fun _ h => List.mem_cons_of_mem _ (List.mem_append_left _ (List.mem_append_left _ (List.mem_append_right _ h)))) (by decide +kernel))
set_option maxRecDepth 20000 in
theorem gL_act_X2_stretch : GoodIn wsL_act (wsV RL 81 RX2 yX2_stretch wsX2_stretch) := goodIn_app (goodIn_of _ (by decide +kernel)) ggL_act_X2_stretch
theorem dL_act_0 : decode cL_act 0 = .ok (.iconst 1, 1) := by decide +kernel
theorem dL_act_1 : decode cL_act 1 = .ok (.istore_n 3, 1) := by decide +kernel
theorem dL_act_2 : decode cL_act 2 = .ok (.iload_n 2, 1) := by decide +kernel
theorem dL_act_3 : decode cL_act 3 = .ok (.bipush 13, 2) := by decide +kernel
theorem dL_act_5 : decode cL_act 5 = .ok (.invokestatic 9, 3) := by decide +kernel
theorem dL_act_8 : decode cL_act 8 = .ok (.tableswitch 590 0 10 #[60, 60, 128, 128, 237, 352, 352, 352, 464, 527, 527], 60) := by decide +kernel
theorem dL_act_68 : decode cL_act 68 = .ok (.aload_n 1, 1) := by decide +kernel
theorem dL_act_69 : decode cL_act 69 = .ok (.invokevirtual 15, 3) := by decide +kernel
theorem dL_act_72 : decode cL_act 72 = .ok (.astore 4, 2) := by decide +kernel
theorem dL_act_74 : decode cL_act 74 = .ok (.aload 4, 2) := by decide +kernel
theorem dL_act_76 : decode cL_act 76 = .ok (.iload_n 2, 1) := by decide +kernel
theorem dL_act_77 : decode cL_act 77 = .ok (.iconst 4, 1) := by decide +kernel
theorem dL_act_78 : decode cL_act 78 = .ok (.ishr, 1) := by decide +kernel
theorem dL_act_79 : decode cL_act 79 = .ok (.bipush 13, 2) := by decide +kernel
theorem dL_act_81 : decode cL_act 81 = .ok (.invokestatic 9, 3) := by decide +kernel
theorem dL_act_84 : decode cL_act 84 = .ok (.putfield 21, 3) := by decide +kernel
theorem dL_act_87 : decode cL_act 87 = .ok (.aload 4, 2) := by decide +kernel
theorem dL_act_89 : decode cL_act 89 = .ok (.invokevirtual 25, 3) := by decide +kernel
theorem dL_act_92 : decode cL_act 92 = .ok (.istore_n 3, 1) := by decide +kernel
theorem dL_act_93 : decode cL_act 93 = .ok (.aload_n 1, 1) := by decide +kernel
theorem dL_act_94 : decode cL_act 94 = .ok (.getfield 21, 3) := by decide +kernel
theorem dL_act_97 : decode cL_act 97 = .ok (.istore 5, 2) := by decide +kernel
theorem dL_act_99 : decode cL_act 99 = .ok (.iload_n 3, 1) := by decide +kernel
theorem dL_act_100 : decode cL_act 100 = .ok (.ifCond .eq 12, 3) := by decide +kernel
theorem dL_act_103 : decode cL_act 103 = .ok (.aload_n 1, 1) := by decide +kernel
theorem dL_act_104 : decode cL_act 104 = .ok (.aload 4, 2) := by decide +kernel
theorem dL_act_106 : decode cL_act 106 = .ok (.getfield 21, 3) := by decide +kernel
theorem dL_act_109 : decode cL_act 109 = .ok (.putfield 21, 3) := by decide +kernel
theorem dL_act_112 : decode cL_act 112 = .ok (.aload_n 0, 1) := by decide +kernel
theorem dL_act_113 : decode cL_act 113 = .ok (.aload 4, 2) := by decide +kernel
theorem dL_act_115 : decode cL_act 115 = .ok (.getfield 21, 3) := by decide +kernel
theorem dL_act_118 : decode cL_act 118 = .ok (.invokevirtual 29, 3) := by decide +kernel
theorem dL_act_121 : decode cL_act 121 = .ok (.iload 5, 2) := by decide +kernel
theorem dL_act_123 : decode cL_act 123 = .ok (.if_icmp .ne 11, 3) := by decide +kernel
theorem dL_act_126 : decode cL_act 126 = .ok (.iload_n 3, 1) := by decide +kernel
theorem dL_act_127 : decode cL_act 127 = .ok (.ifCond .eq 7, 3) := by decide +kernel
theorem dL_act_130 : decode cL_act 130 = .ok (.iconst 1, 1) := by decide +kernel
theorem dL_act_131 : decode cL_act 131 = .ok (.goto 4, 3) := by decide +kernel
theorem dL_act_134 : decode cL_act 134 = .ok (.iconst 0, 1) := by decide +kernel
theorem dL_act_135 : decode cL_act 135 = .ok (.ireturn, 1) := by decide +kernel
theorem dL_act_136 : decode cL_act 136 = .ok (.iload_n 2, 1) := by decide +kernel
theorem dL_act_137 : decode cL_act 137 = .ok (.iconst 3, 1) := by decide +kernel
theorem dL_act_138 : decode cL_act 138 = .ok (.ishr, 1) := by decide +kernel
theorem dL_act_139 : decode cL_act 139 = .ok (.iconst 4, 1) := by decide +kernel
theorem dL_act_140 : decode cL_act 140 = .ok (.invokestatic 9, 3) := by decide +kernel
theorem dL_act_143 : decode cL_act 143 = .ok (.istore 4, 2) := by decide +kernel
theorem dL_act_145 : decode cL_act 145 = .ok (.aload_n 1, 1) := by decide +kernel
theorem dL_act_146 : decode cL_act 146 = .ok (.invokevirtual 15, 3) := by decide +kernel
theorem dL_act_149 : decode cL_act 149 = .ok (.astore 5, 2) := by decide +kernel
theorem dL_act_151 : decode cL_act 151 = .ok (.aload 5, 2) := by decide +kernel
theorem dL_act_153 : decode cL_act 153 = .ok (.getfield 35, 3) := by decide +kernel
theorem dL_act_156 : decode cL_act 156 = .ok (.iload 4, 2) := by decide +kernel
theorem dL_act_158 : decode cL_act 158 = .ok (.iload_n 2, 1) := by decide +kernel
theorem dL_act_159 : decode cL_act 159 = .ok (.iconst 5, 1) := by decide +kernel
theorem dL_act_160 : decode cL_act 160 = .ok (.ishr, 1) := by decide +kernel
theorem dL_act_161 : decode cL_act 161 = .ok (.bipush 7, 2) := by decide +kernel
theorem dL_act_163 : decode cL_act 163 = .ok (.invokestatic 9, 3) := by decide +kernel
theorem dL_act_166 : decode cL_act 166 = .ok (.iastore, 1) := by decide +kernel
theorem dL_act_167 : decode cL_act 167 = .ok (.aload_n 1, 1) := by decide +kernel
theorem dL_act_168 : decode cL_act 168 = .ok (.getfield 39, 3) := by decide +kernel
theorem dL_act_171 : decode cL_act 171 = .ok (.ifCond .ne 15, 3) := by decide +kernel
theorem dL_act_174 : decode cL_act 174 = .ok (.aload 5, 2) := by decide +kernel
theorem dL_act_176 : decode cL_act 176 = .ok (.invokevirtual 25, 3) := by decide +kernel
theorem dL_act_179 : decode cL_act 179 = .ok (.ifCond .eq 7, 3) := by decide +kernel
theorem dL_act_182 : decode cL_act 182 = .ok (.iconst 1, 1) := by decide +kernel
theorem dL_act_183 : decode cL_act 183 = .ok (.goto 4, 3) := by decide +kernel
theorem dL_act_186 : decode cL_act 186 = .ok (.iconst 0, 1) := by decide +kernel
theorem dL_act_187 : decode cL_act 187 = .ok (.istore_n 3, 1) := by decide +kernel
theorem dL_act_188 : decode cL_act 188 = .ok (.aload_n 1, 1) := by decide +kernel
theorem dL_act_189 : decode cL_act 189 = .ok (.getfield 35, 3) := by decide +kernel
theorem dL_act_192 : decode cL_act 192 = .ok (.iload 4, 2) := by decide +kernel
theorem dL_act_194 : decode cL_act 194 = .ok (.iaload, 1) := by decide +kernel
theorem dL_act_195 : decode cL_act 195 = .ok (.istore 6, 2) := by decide +kernel
theorem dL_act_197 : decode cL_act 197 = .ok (.iload_n 3, 1) := by decide +kernel
theorem dL_act_198 : decode cL_act 198 = .ok (.ifCond .eq 18, 3) := by decide +kernel
theorem dL_act_201 : decode cL_act 201 = .ok (.aload_n 1, 1) := by decide +kernel
theorem dL_act_202 : decode cL_act 202 = .ok (.getfield 35, 3) := by decide +kernel
theorem dL_act_205 : decode cL_act 205 = .ok (.iload 4, 2) := by decide +kernel
theorem dL_act_207 : decode cL_act 207 = .ok (.aload 5, 2) := by decide +kernel
theorem dL_act_209 : decode cL_act 209 = .ok (.getfield 35, 3) := by decide +kernel
theorem dL_act_212 : decode cL_act 212 = .ok (.iload 4, 2) := by decide +kernel
theorem dL_act_214 : decode cL_act 214 = .ok (.iaload, 1) := by decide +kernel
theorem dL_act_215 : decode cL_act 215 = .ok (.iastore, 1) := by decide +kernel
theorem dL_act_216 : decode cL_act 216 = .ok (.aload_n 0, 1) := by decide +kernel
theorem dL_act_217 : decode cL_act 217 = .ok (.iload 4, 2) := by decide +kernel
theorem dL_act_219 : decode cL_act 219 = .ok (.aload 5, 2) := by decide +kernel
theorem dL_act_221 : decode cL_act 221 = .ok (.getfield 35, 3) := by decide +kernel
theorem dL_act_224 : decode cL_act 224 = .ok (.iload 4, 2) := by decide +kernel
theorem dL_act_226 : decode cL_act 226 = .ok (.iaload, 1) := by decide +kernel
theorem dL_act_227 : decode cL_act 227 = .ok (.invokevirtual 42, 3) := by decide +kernel
theorem dL_act_230 : decode cL_act 230 = .ok (.iload 6, 2) := by decide +kernel
theorem dL_act_232 : decode cL_act 232 = .ok (.if_icmp .ne 11, 3) := by decide +kernel
theorem dL_act_235 : decode cL_act 235 = .ok (.iload_n 3, 1) := by decide +kernel
theorem dL_act_236 : decode cL_act 236 = .ok (.ifCond .eq 7, 3) := by decide +kernel
theorem dL_act_239 : decode cL_act 239 = .ok (.iconst 1, 1) := by decide +kernel
theorem dL_act_240 : decode cL_act 240 = .ok (.goto 4, 3) := by decide +kernel
theorem dL_act_243 : decode cL_act 243 = .ok (.iconst 0, 1) := by decide +kernel
theorem dL_act_244 : decode cL_act 244 = .ok (.ireturn, 1) := by decide +kernel
theorem dL_act_245 : decode cL_act 245 = .ok (.iload_n 2, 1) := by decide +kernel
theorem dL_act_246 : decode cL_act 246 = .ok (.iconst 3, 1) := by decide +kernel
theorem dL_act_247 : decode cL_act 247 = .ok (.ishr, 1) := by decide +kernel
theorem dL_act_248 : decode cL_act 248 = .ok (.iconst 2, 1) := by decide +kernel
theorem dL_act_249 : decode cL_act 249 = .ok (.invokestatic 9, 3) := by decide +kernel
theorem dL_act_252 : decode cL_act 252 = .ok (.ifCond .ne 10, 3) := by decide +kernel
theorem dL_act_255 : decode cL_act 255 = .ok (.aload_n 1, 1) := by decide +kernel
theorem dL_act_256 : decode cL_act 256 = .ok (.getfield 45, 3) := by decide +kernel
theorem dL_act_259 : decode cL_act 259 = .ok (.goto 13, 3) := by decide +kernel
theorem dL_act_262 : decode cL_act 262 = .ok (.iconst 3, 1) := by decide +kernel
theorem dL_act_263 : decode cL_act 263 = .ok (.iload_n 2, 1) := by decide +kernel
theorem dL_act_264 : decode cL_act 264 = .ok (.iconst 4, 1) := by decide +kernel
theorem dL_act_265 : decode cL_act 265 = .ok (.ishr, 1) := by decide +kernel
theorem dL_act_266 : decode cL_act 266 = .ok (.bipush 28, 2) := by decide +kernel
theorem dL_act_268 : decode cL_act 268 = .ok (.invokestatic 9, 3) := by decide +kernel
theorem dL_act_271 : decode cL_act 271 = .ok (.iadd, 1) := by decide +kernel
theorem dL_act_272 : decode cL_act 272 = .ok (.istore 4, 2) := by decide +kernel
theorem dL_act_274 : decode cL_act 274 = .ok (.aload_n 1, 1) := by decide +kernel
theorem dL_act_275 : decode cL_act 275 = .ok (.invokevirtual 15, 3) := by decide +kernel
theorem dL_act_278 : decode cL_act 278 = .ok (.astore 5, 2) := by decide +kernel
theorem dL_act_280 : decode cL_act 280 = .ok (.aload 5, 2) := by decide +kernel
theorem dL_act_282 : decode cL_act 282 = .ok (.getfield 48, 3) := by decide +kernel
theorem dL_act_285 : decode cL_act 285 = .ok (.iload 4, 2) := by decide +kernel
theorem dL_act_287 : decode cL_act 287 = .ok (.iload_n 2, 1) := by decide +kernel
theorem dL_act_288 : decode cL_act 288 = .ok (.bipush 6, 2) := by decide +kernel
theorem dL_act_290 : decode cL_act 290 = .ok (.ishr, 1) := by decide +kernel
theorem dL_act_291 : decode cL_act 291 = .ok (.bipush 61, 2) := by decide +kernel
theorem dL_act_293 : decode cL_act 293 = .ok (.invokestatic 9, 3) := by decide +kernel
theorem dL_act_296 : decode cL_act 296 = .ok (.iastore, 1) := by decide +kernel
theorem dL_act_297 : decode cL_act 297 = .ok (.aload 5, 2) := by decide +kernel
theorem dL_act_299 : decode cL_act 299 = .ok (.invokevirtual 25, 3) := by decide +kernel
theorem dL_act_302 : decode cL_act 302 = .ok (.istore_n 3, 1) := by decide +kernel
theorem dL_act_303 : decode cL_act 303 = .ok (.aload_n 1, 1) := by decide +kernel
theorem dL_act_304 : decode cL_act 304 = .ok (.getfield 48, 3) := by decide +kernel
theorem dL_act_307 : decode cL_act 307 = .ok (.iload 4, 2) := by decide +kernel
theorem dL_act_309 : decode cL_act 309 = .ok (.iaload, 1) := by decide +kernel
theorem dL_act_310 : decode cL_act 310 = .ok (.istore 6, 2) := by decide +kernel
theorem dL_act_312 : decode cL_act 312 = .ok (.iload_n 3, 1) := by decide +kernel
theorem dL_act_313 : decode cL_act 313 = .ok (.ifCond .eq 18, 3) := by decide +kernel
theorem dL_act_316 : decode cL_act 316 = .ok (.aload_n 1, 1) := by decide +kernel
theorem dL_act_317 : decode cL_act 317 = .ok (.getfield 48, 3) := by decide +kernel
theorem dL_act_320 : decode cL_act 320 = .ok (.iload 4, 2) := by decide +kernel
theorem dL_act_322 : decode cL_act 322 = .ok (.aload 5, 2) := by decide +kernel
theorem dL_act_324 : decode cL_act 324 = .ok (.getfield 48, 3) := by decide +kernel
theorem dL_act_327 : decode cL_act 327 = .ok (.iload 4, 2) := by decide +kernel
theorem dL_act_329 : decode cL_act 329 = .ok (.iaload, 1) := by decide +kernel
theorem dL_act_330 : decode cL_act 330 = .ok (.iastore, 1) := by decide +kernel
theorem dL_act_331 : decode cL_act 331 = .ok (.aload_n 0, 1) := by decide +kernel
theorem dL_act_332 : decode cL_act 332 = .ok (.iload 4, 2) := by decide +kernel
theorem dL_act_334 : decode cL_act 334 = .ok (.aload 5, 2) := by decide +kernel
theorem dL_act_336 : decode cL_act 336 = .ok (.getfield 48, 3) := by decide +kernel
theorem dL_act_339 : decode cL_act 339 = .ok (.iload 4, 2) := by decide +kernel
theorem dL_act_341 : decode cL_act 341 = .ok (.iaload, 1) := by decide +kernel
theorem dL_act_342 : decode cL_act 342 = .ok (.invokevirtual 51, 3) := by decide +kernel
theorem dL_act_345 : decode cL_act 345 = .ok (.iload 6, 2) := by decide +kernel
theorem dL_act_347 : decode cL_act 347 = .ok (.if_icmp .ne 11, 3) := by decide +kernel
theorem dL_act_350 : decode cL_act 350 = .ok (.iload_n 3, 1) := by decide +kernel
theorem dL_act_351 : decode cL_act 351 = .ok (.ifCond .eq 7, 3) := by decide +kernel
theorem dL_act_354 : decode cL_act 354 = .ok (.iconst 1, 1) := by decide +kernel
theorem dL_act_355 : decode cL_act 355 = .ok (.goto 4, 3) := by decide +kernel
theorem dL_act_358 : decode cL_act 358 = .ok (.iconst 0, 1) := by decide +kernel
theorem dL_act_359 : decode cL_act 359 = .ok (.ireturn, 1) := by decide +kernel
theorem dL_act_360 : decode cL_act 360 = .ok (.iconst 1, 1) := by decide +kernel
theorem dL_act_361 : decode cL_act 361 = .ok (.iload_n 2, 1) := by decide +kernel
theorem dL_act_362 : decode cL_act 362 = .ok (.iconst 4, 1) := by decide +kernel
theorem dL_act_363 : decode cL_act 363 = .ok (.ishr, 1) := by decide +kernel
theorem dL_act_364 : decode cL_act 364 = .ok (.iload_n 2, 1) := by decide +kernel
theorem dL_act_365 : decode cL_act 365 = .ok (.bipush 7, 2) := by decide +kernel
theorem dL_act_367 : decode cL_act 367 = .ok (.ishr, 1) := by decide +kernel
theorem dL_act_368 : decode cL_act 368 = .ok (.iconst 2, 1) := by decide +kernel
theorem dL_act_369 : decode cL_act 369 = .ok (.invokestatic 9, 3) := by decide +kernel
theorem dL_act_372 : decode cL_act 372 = .ok (.ifCond .ne 8, 3) := by decide +kernel
theorem dL_act_375 : decode cL_act 375 = .ok (.bipush 60, 2) := by decide +kernel
theorem dL_act_377 : decode cL_act 377 = .ok (.goto 5, 3) := by decide +kernel
theorem dL_act_380 : decode cL_act 380 = .ok (.bipush 10, 2) := by decide +kernel
theorem dL_act_382 : decode cL_act 382 = .ok (.invokestatic 9, 3) := by decide +kernel
theorem dL_act_385 : decode cL_act 385 = .ok (.iadd, 1) := by decide +kernel
theorem dL_act_386 : decode cL_act 386 = .ok (.istore 4, 2) := by decide +kernel
theorem dL_act_388 : decode cL_act 388 = .ok (.aload_n 1, 1) := by decide +kernel
theorem dL_act_389 : decode cL_act 389 = .ok (.getfield 39, 3) := by decide +kernel
theorem dL_act_392 : decode cL_act 392 = .ok (.ifCond .ne 24, 3) := by decide +kernel
theorem dL_act_395 : decode cL_act 395 = .ok (.aload_n 1, 1) := by decide +kernel
theorem dL_act_396 : decode cL_act 396 = .ok (.iload 4, 2) := by decide +kernel
theorem dL_act_398 : decode cL_act 398 = .ok (.aload_n 1, 1) := by decide +kernel
theorem dL_act_399 : decode cL_act 399 = .ok (.getfield 54, 3) := by decide +kernel
theorem dL_act_402 : decode cL_act 402 = .ok (.aload_n 1, 1) := by decide +kernel
theorem dL_act_403 : decode cL_act 403 = .ok (.getfield 45, 3) := by decide +kernel
theorem dL_act_406 : decode cL_act 406 = .ok (.invokevirtual 57, 3) := by decide +kernel
theorem dL_act_409 : decode cL_act 409 = .ok (.ifCond .eq 7, 3) := by decide +kernel
theorem dL_act_412 : decode cL_act 412 = .ok (.iconst 1, 1) := by decide +kernel
theorem dL_act_413 : decode cL_act 413 = .ok (.goto 4, 3) := by decide +kernel
theorem dL_act_416 : decode cL_act 416 = .ok (.iconst 0, 1) := by decide +kernel
theorem dL_act_417 : decode cL_act 417 = .ok (.istore_n 3, 1) := by decide +kernel
theorem dL_act_418 : decode cL_act 418 = .ok (.iload_n 3, 1) := by decide +kernel
theorem dL_act_419 : decode cL_act 419 = .ok (.ifCond .eq 30, 3) := by decide +kernel
theorem dL_act_422 : decode cL_act 422 = .ok (.aload_n 1, 1) := by decide +kernel
theorem dL_act_423 : decode cL_act 423 = .ok (.iload 4, 2) := by decide +kernel
theorem dL_act_425 : decode cL_act 425 = .ok (.putfield 39, 3) := by decide +kernel
theorem dL_act_428 : decode cL_act 428 = .ok (.aload_n 1, 1) := by decide +kernel
theorem dL_act_429 : decode cL_act 429 = .ok (.dup, 1) := by decide +kernel
theorem dL_act_430 : decode cL_act 430 = .ok (.getfield 60, 3) := by decide +kernel
theorem dL_act_433 : decode cL_act 433 = .ok (.iconst 1, 1) := by decide +kernel
theorem dL_act_434 : decode cL_act 434 = .ok (.iadd, 1) := by decide +kernel
theorem dL_act_435 : decode cL_act 435 = .ok (.putfield 60, 3) := by decide +kernel
theorem dL_act_438 : decode cL_act 438 = .ok (.aload_n 1, 1) := by decide +kernel
theorem dL_act_439 : decode cL_act 439 = .ok (.dup, 1) := by decide +kernel
theorem dL_act_440 : decode cL_act 440 = .ok (.getfield 63, 3) := by decide +kernel
theorem dL_act_443 : decode cL_act 443 = .ok (.iload 4, 2) := by decide +kernel
theorem dL_act_445 : decode cL_act 445 = .ok (.iadd, 1) := by decide +kernel
theorem dL_act_446 : decode cL_act 446 = .ok (.putfield 63, 3) := by decide +kernel
theorem dL_act_449 : decode cL_act 449 = .ok (.aload_n 0, 1) := by decide +kernel
theorem dL_act_450 : decode cL_act 450 = .ok (.iload 4, 2) := by decide +kernel
theorem dL_act_452 : decode cL_act 452 = .ok (.invokevirtual 66, 3) := by decide +kernel
theorem dL_act_455 : decode cL_act 455 = .ok (.aload_n 1, 1) := by decide +kernel
theorem dL_act_456 : decode cL_act 456 = .ok (.getfield 60, 3) := by decide +kernel
theorem dL_act_459 : decode cL_act 459 = .ok (.if_icmp .ne 11, 3) := by decide +kernel
theorem dL_act_462 : decode cL_act 462 = .ok (.iload_n 3, 1) := by decide +kernel
theorem dL_act_463 : decode cL_act 463 = .ok (.ifCond .eq 7, 3) := by decide +kernel
theorem dL_act_466 : decode cL_act 466 = .ok (.iconst 1, 1) := by decide +kernel
theorem dL_act_467 : decode cL_act 467 = .ok (.goto 4, 3) := by decide +kernel
theorem dL_act_470 : decode cL_act 470 = .ok (.iconst 0, 1) := by decide +kernel
theorem dL_act_471 : decode cL_act 471 = .ok (.ireturn, 1) := by decide +kernel
theorem dL_act_472 : decode cL_act 472 = .ok (.aload_n 1, 1) := by decide +kernel
theorem dL_act_473 : decode cL_act 473 = .ok (.getfield 39, 3) := by decide +kernel
theorem dL_act_476 : decode cL_act 476 = .ok (.ifCond .le 23, 3) := by decide +kernel
theorem dL_act_479 : decode cL_act 479 = .ok (.aload_n 1, 1) := by decide +kernel
theorem dL_act_480 : decode cL_act 480 = .ok (.iconst 0, 1) := by decide +kernel
theorem dL_act_481 : decode cL_act 481 = .ok (.aload_n 1, 1) := by decide +kernel
theorem dL_act_482 : decode cL_act 482 = .ok (.getfield 54, 3) := by decide +kernel
theorem dL_act_485 : decode cL_act 485 = .ok (.aload_n 1, 1) := by decide +kernel
theorem dL_act_486 : decode cL_act 486 = .ok (.getfield 45, 3) := by decide +kernel
theorem dL_act_489 : decode cL_act 489 = .ok (.invokevirtual 57, 3) := by decide +kernel
theorem dL_act_492 : decode cL_act 492 = .ok (.ifCond .eq 7, 3) := by decide +kernel
theorem dL_act_495 : decode cL_act 495 = .ok (.iconst 1, 1) := by decide +kernel
theorem dL_act_496 : decode cL_act 496 = .ok (.goto 4, 3) := by decide +kernel
theorem dL_act_499 : decode cL_act 499 = .ok (.iconst 0, 1) := by decide +kernel
theorem dL_act_500 : decode cL_act 500 = .ok (.istore_n 3, 1) := by decide +kernel
theorem dL_act_501 : decode cL_act 501 = .ok (.aload_n 1, 1) := by decide +kernel
theorem dL_act_502 : decode cL_act 502 = .ok (.getfield 39, 3) := by decide +kernel
theorem dL_act_505 : decode cL_act 505 = .ok (.istore 4, 2) := by decide +kernel
theorem dL_act_507 : decode cL_act 507 = .ok (.iload_n 3, 1) := by decide +kernel
theorem dL_act_508 : decode cL_act 508 = .ok (.ifCond .eq 8, 3) := by decide +kernel
theorem dL_act_511 : decode cL_act 511 = .ok (.aload_n 1, 1) := by decide +kernel
theorem dL_act_512 : decode cL_act 512 = .ok (.iconst 0, 1) := by decide +kernel
theorem dL_act_513 : decode cL_act 513 = .ok (.putfield 39, 3) := by decide +kernel
theorem dL_act_516 : decode cL_act 516 = .ok (.aload_n 0, 1) := by decide +kernel
theorem dL_act_517 : decode cL_act 517 = .ok (.invokevirtual 69, 3) := by decide +kernel
theorem dL_act_520 : decode cL_act 520 = .ok (.iload 4, 2) := by decide +kernel
theorem dL_act_522 : decode cL_act 522 = .ok (.if_icmp .ne 11, 3) := by decide +kernel
theorem dL_act_525 : decode cL_act 525 = .ok (.iload_n 3, 1) := by decide +kernel
theorem dL_act_526 : decode cL_act 526 = .ok (.ifCond .eq 7, 3) := by decide +kernel
theorem dL_act_529 : decode cL_act 529 = .ok (.iconst 1, 1) := by decide +kernel
theorem dL_act_530 : decode cL_act 530 = .ok (.goto 4, 3) := by decide +kernel
theorem dL_act_533 : decode cL_act 533 = .ok (.iconst 0, 1) := by decide +kernel
theorem dL_act_534 : decode cL_act 534 = .ok (.ireturn, 1) := by decide +kernel
theorem dL_act_535 : decode cL_act 535 = .ok (.iconst 1, 1) := by decide +kernel
theorem dL_act_536 : decode cL_act 536 = .ok (.iload_n 2, 1) := by decide +kernel
theorem dL_act_537 : decode cL_act 537 = .ok (.iconst 4, 1) := by decide +kernel
theorem dL_act_538 : decode cL_act 538 = .ok (.ishr, 1) := by decide +kernel
theorem dL_act_539 : decode cL_act 539 = .ok (.bipush 8, 2) := by decide +kernel
theorem dL_act_541 : decode cL_act 541 = .ok (.invokestatic 9, 3) := by decide +kernel
theorem dL_act_544 : decode cL_act 544 = .ok (.iadd, 1) := by decide +kernel
theorem dL_act_545 : decode cL_act 545 = .ok (.istore 4, 2) := by decide +kernel
theorem dL_act_547 : decode cL_act 547 = .ok (.iload_n 2, 1) := by decide +kernel
theorem dL_act_548 : decode cL_act 548 = .ok (.iconst 3, 1) := by decide +kernel
theorem dL_act_549 : decode cL_act 549 = .ok (.ishr, 1) := by decide +kernel
theorem dL_act_550 : decode cL_act 550 = .ok (.iconst 2, 1) := by decide +kernel
theorem dL_act_551 : decode cL_act 551 = .ok (.invokestatic 9, 3) := by decide +kernel
theorem dL_act_554 : decode cL_act 554 = .ok (.ifCond .ne 7, 3) := by decide +kernel
theorem dL_act_557 : decode cL_act 557 = .ok (.iconst 1, 1) := by decide +kernel
theorem dL_act_558 : decode cL_act 558 = .ok (.goto 4, 3) := by decide +kernel
theorem dL_act_561 : decode cL_act 561 = .ok (.iconst 0, 1) := by decide +kernel
theorem dL_act_562 : decode cL_act 562 = .ok (.istore 5, 2) := by decide +kernel
theorem dL_act_564 : decode cL_act 564 = .ok (.aload_n 0, 1) := by decide +kernel
theorem dL_act_565 : decode cL_act 565 = .ok (.iload 4, 2) := by decide +kernel
theorem dL_act_567 : decode cL_act 567 = .ok (.iload 5, 2) := by decide +kernel
theorem dL_act_569 : decode cL_act 569 = .ok (.invokevirtual 73, 3) := by decide +kernel
theorem dL_act_572 : decode cL_act 572 = .ok (.aload_n 1, 1) := by decide +kernel
theorem dL_act_573 : decode cL_act 573 = .ok (.iload 4, 2) := by decide +kernel
theorem dL_act_575 : decode cL_act 575 = .ok (.iload 5, 2) := by decide +kernel
theorem dL_act_577 : decode cL_act 577 = .ok (.ifCond .eq 7, 3) := by decide +kernel
theorem dL_act_580 : decode cL_act 580 = .ok (.iconst 1, 1) := by decide +kernel
theorem dL_act_581 : decode cL_act 581 = .ok (.goto 4, 3) := by decide +kernel
theorem dL_act_584 : decode cL_act 584 = .ok (.iconst (-1), 1) := by decide +kernel
theorem dL_act_585 : decode cL_act 585 = .ok (.iconst 0, 1) := by decide +kernel
theorem dL_act_586 : decode cL_act 586 = .ok (.invokevirtual 77, 3) := by decide +kernel
theorem dL_act_589 : decode cL_act 589 = .ok (.if_icmp .ne 7, 3) := by decide +kernel
theorem dL_act_592 : decode cL_act 592 = .ok (.iconst 1, 1) := by decide +kernel
theorem dL_act_593 : decode cL_act 593 = .ok (.goto 4, 3) := by decide +kernel
theorem dL_act_596 : decode cL_act 596 = .ok (.iconst 0, 1) := by decide +kernel
theorem dL_act_597 : decode cL_act 597 = .ok (.ireturn, 1) := by decide +kernel
theorem dL_act_598 : decode cL_act 598 = .ok (.iconst 1, 1) := by decide +kernel
theorem dL_act_599 : decode cL_act 599 = .ok (.iload_n 2, 1) := by decide +kernel
theorem dL_act_600 : decode cL_act 600 = .ok (.iconst 5, 1) := by decide +kernel
theorem dL_act_601 : decode cL_act 601 = .ok (.ishr, 1) := by decide +kernel
theorem dL_act_602 : decode cL_act 602 = .ok (.iload_n 2, 1) := by decide +kernel
theorem dL_act_603 : decode cL_act 603 = .ok (.iconst 4, 1) := by decide +kernel
theorem dL_act_604 : decode cL_act 604 = .ok (.ishr, 1) := by decide +kernel
theorem dL_act_605 : decode cL_act 605 = .ok (.iconst 3, 1) := by decide +kernel
theorem dL_act_606 : decode cL_act 606 = .ok (.invokestatic 9, 3) := by decide +kernel
theorem dL_act_609 : decode cL_act 609 = .ok (.ifCond .ne 8, 3) := by decide +kernel
theorem dL_act_612 : decode cL_act 612 = .ok (.bipush 30, 2) := by decide +kernel
theorem dL_act_614 : decode cL_act 614 = .ok (.goto 5, 3) := by decide +kernel
theorem dL_act_617 : decode cL_act 617 = .ok (.bipush 7, 2) := by decide +kernel
theorem dL_act_619 : decode cL_act 619 = .ok (.invokestatic 9, 3) := by decide +kernel
theorem dL_act_622 : decode cL_act 622 = .ok (.iadd, 1) := by decide +kernel
theorem dL_act_623 : decode cL_act 623 = .ok (.istore 4, 2) := by decide +kernel
theorem dL_act_625 : decode cL_act 625 = .ok (.iload_n 2, 1) := by decide +kernel
theorem dL_act_626 : decode cL_act 626 = .ok (.iconst 3, 1) := by decide +kernel
theorem dL_act_627 : decode cL_act 627 = .ok (.ishr, 1) := by decide +kernel
theorem dL_act_628 : decode cL_act 628 = .ok (.iconst 3, 1) := by decide +kernel
theorem dL_act_629 : decode cL_act 629 = .ok (.invokestatic 9, 3) := by decide +kernel
theorem dL_act_632 : decode cL_act 632 = .ok (.ifCond .le 7, 3) := by decide +kernel
theorem dL_act_635 : decode cL_act 635 = .ok (.iconst 1, 1) := by decide +kernel
theorem dL_act_636 : decode cL_act 636 = .ok (.goto 4, 3) := by decide +kernel
theorem dL_act_639 : decode cL_act 639 = .ok (.iconst 0, 1) := by decide +kernel
theorem dL_act_640 : decode cL_act 640 = .ok (.istore 5, 2) := by decide +kernel
theorem dL_act_642 : decode cL_act 642 = .ok (.aload_n 0, 1) := by decide +kernel
theorem dL_act_643 : decode cL_act 643 = .ok (.iload 4, 2) := by decide +kernel
theorem dL_act_645 : decode cL_act 645 = .ok (.iload 5, 2) := by decide +kernel
theorem dL_act_647 : decode cL_act 647 = .ok (.invokevirtual 81, 3) := by decide +kernel
theorem dL_act_650 : decode cL_act 650 = .ok (.aload_n 1, 1) := by decide +kernel
theorem dL_act_651 : decode cL_act 651 = .ok (.iload 4, 2) := by decide +kernel
theorem dL_act_653 : decode cL_act 653 = .ok (.iconst 0, 1) := by decide +kernel
theorem dL_act_654 : decode cL_act 654 = .ok (.iload 5, 2) := by decide +kernel
theorem dL_act_656 : decode cL_act 656 = .ok (.ifCond .eq 7, 3) := by decide +kernel
theorem dL_act_659 : decode cL_act 659 = .ok (.iconst 1, 1) := by decide +kernel
theorem dL_act_660 : decode cL_act 660 = .ok (.goto 4, 3) := by decide +kernel
theorem dL_act_663 : decode cL_act 663 = .ok (.iconst (-1), 1) := by decide +kernel
theorem dL_act_664 : decode cL_act 664 = .ok (.invokevirtual 77, 3) := by decide +kernel
theorem dL_act_667 : decode cL_act 667 = .ok (.if_icmp .ne 7, 3) := by decide +kernel
theorem dL_act_670 : decode cL_act 670 = .ok (.iconst 1, 1) := by decide +kernel
theorem dL_act_671 : decode cL_act 671 = .ok (.goto 4, 3) := by decide +kernel
theorem dL_act_674 : decode cL_act 674 = .ok (.iconst 0, 1) := by decide +kernel
theorem dL_act_675 : decode cL_act 675 = .ok (.ireturn, 1) := by decide +kernel
theorem dL_act_676 : decode cL_act 676 = .ok (.astore 4, 2) := by decide +kernel
theorem dL_act_678 : decode cL_act 678 = .ok (.iload_n 3, 1) := by decide +kernel
theorem dL_act_679 : decode cL_act 679 = .ok (.ifCond .ne 7, 3) := by decide +kernel
theorem dL_act_682 : decode cL_act 682 = .ok (.iconst 1, 1) := by decide +kernel
theorem dL_act_683 : decode cL_act 683 = .ok (.goto 4, 3) := by decide +kernel
theorem dL_act_686 : decode cL_act 686 = .ok (.iconst 0, 1) := by decide +kernel
theorem dL_act_687 : decode cL_act 687 = .ok (.ireturn, 1) := by decide +kernel
