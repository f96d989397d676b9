set_option maxRecDepth 20000 in
theorem wsL_law0_r1_in : ∀ w ∈ wsL_law0_r1, w ∈ lw_tbl := fun w h => (goodIn_p wsL_law0_r1 [21, 24] (by decide +kernel) (by decide +kernel) w h).1
set_option maxRecDepth 20000 in
theorem wsL_law0_r2_in : ∀ w ∈ wsL_law0_r2, w ∈ lw_tbl := fun w h => (goodIn_p wsL_law0_r2 [29, 47, 330, 437] (by decide +kernel) (by decide +kernel) w h).1
set_option maxRecDepth 20000 in
theorem wsL_law0_r3_a : ∀ w ∈ ([Cond.methodLink RL 92 yL_act, Cond.static yL_act] : List Cond), w ∈ lw_tbl := fun w h => (goodIn_p [Cond.methodLink RL 92 yL_act, Cond.static yL_act] [] (by decide +kernel) (by decide +kernel) w h).1
set_option maxRecDepth 20000 in
theorem wsL_law0_r3_c : Cond.codeWith yL_act cL_act 7 (some .boolean) [(2, 135, 676, 84), (136, 244, 676, 84), (245, 359, 676, 84), (360, 471, 676, 84), (472, 534, 676, 84), (535, 597, 676, 84), (598, 675, 676, 84)] ∈ lw_tbl := List.mem_of_getElem? (i := 441) rfl
set_option maxRecDepth 20000 in
theorem wsL_law0_r3_b : ∀ w ∈ ([Cond.classLink RL 84 "java/lang/IllegalStateException", Cond.fieldLink RL 35 "CraneReachLaw$Sim" "out" "[I", Cond.fieldLink RL 39 "CraneReachLaw$Sim" "load" "I", Cond.fieldLink RL 45 "CraneReachLaw$Sim" "reach" "I", Cond.fieldLink RL 48 "CraneReachLaw$Sim" "limits" "[I", Cond.fieldLink RL 54 "CraneReachLaw$Sim" "direction" "I", Cond.fieldLink RL 60 "CraneReachLaw$Sim" "lifts" "I", Cond.fieldLink RL 63 "CraneReachLaw$Sim" "tons" "I", Cond.methodLink RL 9 yL_below, Cond.static yL_below, Cond.code yL_below cL_below 2 (some .int), Cond.constant RL 7 (2147483647), Cond.methodLink RL 15 yX3_copy, Cond.instanceMethod yX3_copy, Cond.selects RX3 yX3_copy yX3_copy, Cond.code yX3_copy cX3_copy 2 (some (.object "CraneReachLaw$Sim")), Cond.classLink RX3 8 RX3, Cond.fieldLink RX3 21 "CraneReachLaw$Sim" "direction" "I", Cond.fieldLink RX3 24 "CraneReachLaw$Sim" "load" "I", Cond.fieldLink RX3 27 "CraneReachLaw$Sim" "plates" "I", Cond.methodLink RX3 30 ⟨"[I", "clone", "()Ljava/lang/Object;"⟩] : List Cond), w ∈ lw_tbl := fun w h => (goodIn_p [Cond.classLink RL 84 "java/lang/IllegalStateException", Cond.fieldLink RL 35 "CraneReachLaw$Sim" "out" "[I", Cond.fieldLink RL 39 "CraneReachLaw$Sim" "load" "I", Cond.fieldLink RL 45 "CraneReachLaw$Sim" "reach" "I", Cond.fieldLink RL 48 "CraneReachLaw$Sim" "limits" "[I", Cond.fieldLink RL 54 "CraneReachLaw$Sim" "direction" "I", Cond.fieldLink RL 60 "CraneReachLaw$Sim" "lifts" "I", Cond.fieldLink RL 63 "CraneReachLaw$Sim" "tons" "I", Cond.methodLink RL 9 yL_below, Cond.static yL_below, Cond.code yL_below cL_below 2 (some .int), Cond.constant RL 7 (2147483647), Cond.methodLink RL 15 yX3_copy, Cond.instanceMethod yX3_copy, Cond.selects RX3 yX3_copy yX3_copy, Cond.code yX3_copy cX3_copy 2 (some (.object "CraneReachLaw$Sim")), Cond.classLink RX3 8 RX3, Cond.fieldLink RX3 21 "CraneReachLaw$Sim" "direction" "I", Cond.fieldLink RX3 24 "CraneReachLaw$Sim" "load" "I", Cond.fieldLink RX3 27 "CraneReachLaw$Sim" "plates" "I", Cond.methodLink RX3 30 ⟨"[I", "clone", "()Ljava/lang/Object;"⟩] [433, 383] (by decide +kernel) (by decide +kernel) w h).1
theorem wsL_law0_r3_in : ∀ w ∈ wsL_law0_r3, w ∈ lw_tbl := fun w h => (List.mem_append.mp (show w ∈ ([Cond.methodLink RL 92 yL_act, Cond.static yL_act] : List Cond) ++ (Cond.codeWith yL_act cL_act 7 (some .boolean) [(2, 135, 676, 84), (136, 244, 676, 84), (245, 359, 676, 84), (360, 471, 676, 84), (472, 534, 676, 84), (535, 597, 676, 84), (598, 675, 676, 84)] :: [Cond.classLink RL 84 "java/lang/IllegalStateException", Cond.fieldLink RL 35 "CraneReachLaw$Sim" "out" "[I", Cond.fieldLink RL 39 "CraneReachLaw$Sim" "load" "I", Cond.fieldLink RL 45 "CraneReachLaw$Sim" "reach" "I", Cond.fieldLink RL 48 "CraneReachLaw$Sim" "limits" "[I", Cond.fieldLink RL 54 "CraneReachLaw$Sim" "direction" "I", Cond.fieldLink RL 60 "CraneReachLaw$Sim" "lifts" "I", Cond.fieldLink RL 63 "CraneReachLaw$Sim" "tons" "I", Cond.methodLink RL 9 yL_below, Cond.static yL_below, Cond.code yL_below cL_below 2 (some .int), Cond.constant RL 7 (2147483647), Cond.methodLink RL 15 yX3_copy, Cond.instanceMethod yX3_copy, Cond.selects RX3 yX3_copy yX3_copy, Cond.code yX3_copy cX3_copy 2 (some (.object "CraneReachLaw$Sim")), Cond.classLink RX3 8 RX3, Cond.fieldLink RX3 21 "CraneReachLaw$Sim" "direction" "I", Cond.fieldLink RX3 24 "CraneReachLaw$Sim" "load" "I", Cond.fieldLink RX3 27 "CraneReachLaw$Sim" "plates" "I", Cond.methodLink RX3 30 ⟨"[I", "clone", "()Ljava/lang/Object;"⟩]) from h)).elim (fun h => wsL_law0_r3_a w h) (fun h => (List.mem_cons.mp h).elim (fun e => by rw [e]; exact wsL_law0_r3_c) (fun h => wsL_law0_r3_b w h))
set_option maxRecDepth 20000 in
theorem wsL_law0_r4_in : ∀ w ∈ wsL_law0_r4, w ∈ lw_tbl := fun w h => (goodIn_p wsL_law0_r4 [371, 375, 447] (by decide +kernel) (by decide +kernel) w h).1
set_option maxRecDepth 20000 in
theorem wsL_law0_r5_in : ∀ w ∈ wsL_law0_r5, w ∈ lw_tbl := fun w h => (goodIn_p wsL_law0_r5 [112, 268, 184, 272, 214] (by decide +kernel) (by decide +kernel) w h).1
set_option maxRecDepth 20000 in
theorem wsL_law0_r6_in : ∀ w ∈ wsL_law0_r6, w ∈ lw_tbl := fun w h => (goodIn_p wsL_law0_r6 [276, 452, 246, 222, 226, 472] (by decide +kernel) (by decide +kernel) w h).1
set_option maxRecDepth 20000 in
theorem wsL_law0_r7_in : ∀ w ∈ wsL_law0_r7, w ∈ lw_tbl := fun w h => (goodIn_p wsL_law0_r7 [109, 477, 482, 191, 194] (by decide +kernel) (by decide +kernel) w h).1
set_option maxRecDepth 20000 in
theorem wsL_law0_r8_in : ∀ w ∈ wsL_law0_r8, w ∈ lw_tbl := fun w h => (goodIn_p wsL_law0_r8 [425, 489, 494, 499, 300, 505] (by decide +kernel) (by decide +kernel) w h).1
set_option maxRecDepth 20000 in
theorem wsL_law0_r9_in : ∀ w ∈ wsL_law0_r9, w ∈ lw_tbl := fun w h => (goodIn_p wsL_law0_r9 [509, 513, 317, 321, 230] (by decide +kernel) (by decide +kernel) w h).1
set_option maxRecDepth 20000 in
theorem wsL_law0_r10_in : ∀ w ∈ wsL_law0_r10, w ∈ lw_tbl := fun w h => (goodIn_p wsL_law0_r10 [252, 260, 241, 98, 90, 94] (by decide +kernel) (by decide +kernel) w h).1
set_option maxRecDepth 20000 in
theorem wsL_law0_r11_in : ∀ w ∈ wsL_law0_r11, w ∈ lw_tbl := fun w h => (goodIn_p wsL_law0_r11 [234, 237, 188, 218, 256, 264] (by decide +kernel) (by decide +kernel) w h).1
set_option maxRecDepth 20000 in
theorem wsL_law0_r12_in : ∀ w ∈ wsL_law0_r12, w ∈ lw_tbl := fun w h => (goodIn_p wsL_law0_r12 [102, 379, 280, 284, 288] (by decide +kernel) (by decide +kernel) w h).1
set_option maxRecDepth 20000 in
theorem wsL_law0_r13_in : ∀ w ∈ wsL_law0_r13, w ∈ lw_tbl := fun w h => (goodIn_p wsL_law0_r13 [291, 297, 304, 312, 308, 106] (by decide +kernel) (by decide +kernel) w h).1
set_option maxRecDepth 20000 in
theorem wsL_law0_r14_in : ∀ w ∈ wsL_law0_r14, w ∈ lw_tbl := fun w h => (goodIn_p wsL_law0_r14 [396, 408, 412, 416] (by decide +kernel) (by decide +kernel) w h).1
set_option maxRecDepth 20000 in
theorem wsL_law0_r15_in : ∀ w ∈ wsL_law0_r15, w ∈ lw_tbl := fun w h => (goodIn_p wsL_law0_r15 [421, 430] (by decide +kernel) (by decide +kernel) w h).1
theorem wsX20_in : ∀ w ∈ wsX20, w ∈ lw_tbl := by decide +kernel
theorem wsX30_in : ∀ w ∈ wsX30, w ∈ lw_tbl := by decide +kernel
theorem wsX10_in : ∀ w ∈ wsX10, w ∈ lw_tbl := by decide +kernel
theorem wsX00_in : ∀ w ∈ wsX00, w ∈ lw_tbl := by decide +kernel
theorem wsL_law_in0 : ∀ w ∈ wsL_law0, w ∈ lw_tbl := fun w h =>
  (List.mem_append.mp h).elim (fun h => (List.mem_append.mp h).elim (fun h => (List.mem_append.mp h).elim (fun h => (List.mem_append.mp h).elim (fun h => (List.mem_append.mp h).elim (fun h => (List.mem_append.mp h).elim (fun h => wsL_law0_r1_in w h) (fun h => (List.mem_append.mp h).elim (fun h => wsL_law0_r2_in w h) (fun h => (List.mem_append.mp h).elim (fun h => wsL_law0_r3_in w h) (fun h => (List.mem_append.mp h).elim (fun h => wsL_law0_r4_in w h) (fun h => (List.mem_append.mp h).elim (fun h => wsL_law0_r5_in w h) (fun h => (List.mem_append.mp h).elim (fun h => wsL_law0_r6_in w h) (fun h => (List.mem_append.mp h).elim (fun h => wsL_law0_r7_in w h) (fun h => (List.mem_append.mp h).elim (fun h => wsL_law0_r8_in w h) (fun h => (List.mem_append.mp h).elim (fun h => wsL_law0_r9_in w h) (fun h => (List.mem_append.mp h).elim (fun h => wsL_law0_r10_in w h) (fun h => (List.mem_append.mp h).elim (fun h => wsL_law0_r11_in w h) (fun h => (List.mem_append.mp h).elim (fun h => wsL_law0_r12_in w h) (fun h => (List.mem_append.mp h).elim (fun h => wsL_law0_r13_in w h) (fun h => (List.mem_append.mp h).elim (fun h => wsL_law0_r14_in w h) (fun h => wsL_law0_r15_in w h))))))))))))))) (fun h => wsX20_in w h)) (fun h => wsX30_in w h)) (fun h => wsX10_in w h)) (fun h => wsX00_in w h)) (fun h => absurd h List.not_mem_nil)
theorem wsL_law_x0 : ∀ w ∈ (vx_atS RX2 38 "java/lang/IllegalArgumentException" ["java/lang/RuntimeException", "java/lang/Exception"]).filter goodWord, w ∈ lw_tbl := by decide +kernel
theorem wsL_law_x1 : ∀ w ∈ (vx_atS RX2 95 "java/lang/IllegalStateException" ["java/lang/RuntimeException", "java/lang/Exception"]).filter goodWord, w ∈ lw_tbl := by decide +kernel
theorem wsL_law_x2 : ∀ w ∈ (vx_atS RX2 163 "java/lang/IndexOutOfBoundsException" ["java/lang/RuntimeException", "java/lang/Exception"]).filter goodWord, w ∈ lw_tbl := by decide +kernel
theorem wsL_law_in : ∀ w ∈ wsL_law, w ∈ lw_tbl := fun w h => (List.mem_append.mp h).elim (fun h => (List.mem_append.mp h).elim (fun h => (List.mem_append.mp h).elim (fun h => wsL_law_in0 w h) (fun h => wsL_law_x0 w h)) (fun h => wsL_law_x1 w h)) (fun h => wsL_law_x2 w h)
theorem inlX0 : ∀ w ∈ wsX00, w ∈ wsL_law := fun _ h => List.mem_append_left _ (List.mem_append_left _ (List.mem_append_left _ (List.mem_append_left _ (List.mem_append_right _ h))))
theorem inX0 : ∀ w ∈ wsX00, w ∈ lw_tbl := fun w h => wsL_law_in w (inlX0 w h)
theorem inlX1 : ∀ w ∈ wsX10, w ∈ wsL_law := fun _ h => List.mem_append_left _ (List.mem_append_left _ (List.mem_append_left _ (List.mem_append_left _ (List.mem_append_left _ (List.mem_append_right _ h)))))
theorem inX1 : ∀ w ∈ wsX10, w ∈ lw_tbl := fun w h => wsL_law_in w (inlX1 w h)
theorem inlX2 : ∀ w ∈ wsX20, w ∈ wsL_law := fun _ h => List.mem_append_left _ (List.mem_append_left _ (List.mem_append_left _ (List.mem_append_left _ (List.mem_append_left _ (List.mem_append_left _ (List.mem_append_left _ (List.mem_append_right _ h)))))))
theorem inX2 : ∀ w ∈ wsX20, w ∈ lw_tbl := fun w h => wsL_law_in w (inlX2 w h)
theorem inlX3 : ∀ w ∈ wsX30, w ∈ wsL_law := fun _ h => List.mem_append_left _ (List.mem_append_left _ (List.mem_append_left _ (List.mem_append_left _ (List.mem_append_left _ (List.mem_append_left _ (List.mem_append_right _ h))))))
theorem inX3 : ∀ w ∈ wsX30, w ∈ lw_tbl := fun w h => wsL_law_in w (inlX3 w h)
theorem inX4 : ∀ w ∈ wsX40, w ∈ lw_tbl := by decide +kernel
theorem inJx8e188 : ∀ w ∈ wsJx8e1880, w ∈ lw_tbl := by decide +kernel
theorem inJ0 : ∀ w ∈ wsJ00, w ∈ lw_tbl := by decide +kernel
