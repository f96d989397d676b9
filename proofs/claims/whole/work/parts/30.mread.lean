set_option maxHeartbeats 4000000 in
set_option maxRecDepth 100000 in
/-- isIn -/
theorem q_isIn (l : Launch) (D : va_G) (L0 : Nat) (v a b : Int32) : Met l yX3_isIn wsX3_isIn ({ frames := 0, cells := 0, slots := 0, locals := 0 }) (cP L0 D [] [] [.int v, .int a, .int b]) (cR (some (.int (bI (decide (a ≤ v) && decide (v ≤ b)))))) 0 0 (fun _ => False) := by
  refine Met.ofW (cc := cX3_isIn) (maxL := 3) (ret := (some .boolean)) (by decide) rfl ?_
  intro p e s m args below meth c s₁ B hml hv
  obtain ⟨rfl, hP, hK, hD0, hE0⟩ := hv
  have hx := B.exec
  have hb := B.bytes
  have hRt := B.returns
  have hts := atoms_spec (ws := wsX3_isIn) B.pre
  have hown : s.vm.findClass RX3 = some m.cls := findClass_of_methodNamed B.named
  have hlocks := B.notSynchronized
  have hAL : ∀ z9 : Nat, (fun _ : Nat => False) z9 → L0 ≤ z9 := fun z9 h9 => False.elim h9
  generalize hAe : (fun _ : Nat => False) = A at hAL ⊢
  have hS : va_S A s.heap s.heap [] := va_S.rf
  have hl := lv_entry ([.int v, .int a, .int b]) (n := 3) (Nat.le_of_ble_eq_true rfl)
  rw [lg_entry_eq]
  generalize (lg_sl ([.int v, .int a, .int b]) ++ List.replicate (3 - (lg_sl ([.int v, .int a, .int b])).length) Slot.unset).toArray = ls at hl ⊢
  have hl : lv_has ls 3 [(0, .int v), (1, .int a), (2, .int b)] := hl
  refine lv_iload_n hx hb dX3_isIn_0 rfl (lv_at hl 0 rfl) ?_
  refine lv_iload_n hx hb dX3_isIn_1 rfl (lv_at hl 1 rfl) ?_
  refine lv_icmp_lt (tgt := 14) hx hb dX3_isIn_2 (by decide) (fun c_1 => ?_) (fun c_1 => ?_)
  · refine lv_iconst (v := 0) hx hb dX3_isIn_14 (by decide) ?_
    exact W.zret (v := 0) hx hb hRt (rfl) (fun t ht hW => ⟨by rw [isW_n1 (i_ltn c_1)], ht⟩) hS.2.2 dX3_isIn_15
  · refine lv_iload_n hx hb dX3_isIn_5 rfl (lv_at hl 0 rfl) ?_
    refine lv_iload_n hx hb dX3_isIn_6 rfl (lv_at hl 2 rfl) ?_
    refine lv_icmp_gt (tgt := 14) hx hb dX3_isIn_7 (by decide) (fun c_2 => ?_) (fun c_2 => ?_)
    · refine lv_iconst (v := 0) hx hb dX3_isIn_14 (by decide) ?_
      exact W.zret (v := 0) hx hb hRt (rfl) (fun t ht hW => ⟨by rw [isW_n2 (i_ltn c_2)], ht⟩) hS.2.2 dX3_isIn_15
    · refine lv_iconst (v := 1) hx hb dX3_isIn_10 (by decide) ?_
      refine lv_goto (tgt := 15) hx hb dX3_isIn_11 (by decide) ?_
      exact W.zret (v := 1) hx hb hRt (rfl) (fun t ht hW => ⟨by rw [isW_yes (i_nlt c_1) (i_nlt c_2)], ht⟩) hS.2.2 dX3_isIn_15
set_option maxHeartbeats 4000000 in
set_option maxRecDepth 100000 in
/-- isSide -/
theorem q_isSide (l : Launch) (D : va_G) (L0 : Nat) (v : Int32) : Met l yX3_isSide wsX3_isSide ({ frames := 1, cells := 0, slots := 0, locals := 22 }) (cP L0 D [] [] [.int v]) (cR (some (.int (bI (decide (0 ≤ v) && decide (v ≤ 3)))))) 0 0 (fun _ => False) := by
  refine Met.ofW (cc := cX3_isSide) (maxL := 1) (ret := (some .boolean)) (by decide) rfl ?_
  intro p e s m args below meth c s₁ B hml hv
  obtain ⟨rfl, hP, hK, hD0, hE0⟩ := hv
  have hx := B.exec
  have hb := B.bytes
  have hRt := B.returns
  have hts := atoms_spec (ws := wsX3_isSide) B.pre
  have hown : s.vm.findClass RX3 = some m.cls := findClass_of_methodNamed B.named
  have hlocks := B.notSynchronized
  have hAL : ∀ z9 : Nat, (fun _ : Nat => False) z9 → L0 ≤ z9 := fun z9 h9 => False.elim h9
  generalize hAe : (fun _ : Nat => False) = A at hAL ⊢
  have hS : va_S A s.heap s.heap [] := va_S.rf
  have hl := lv_entry ([.int v]) (n := 1) (Nat.le_of_ble_eq_true rfl)
  rw [lg_entry_eq]
  generalize (lg_sl ([.int v]) ++ List.replicate (1 - (lg_sl ([.int v])).length) Slot.unset).toArray = ls at hl ⊢
  have hl : lv_has ls 1 [(0, .int v)] := hl
  refine lv_iload_n hx hb dX3_isSide_0 rfl (lv_at hl 0 rfl) ?_
  refine lv_iconst (v := 0) hx hb dX3_isSide_1 (by decide) ?_
  refine lv_iconst (v := 3) hx hb dX3_isSide_2 (by decide) ?_
  have hPc := hP.sub (ws' := []) [] rfl
  have hDc := hD0.sub (ws' := []) [] (by decide) rfl
  have hKc := hK.sub (tys' := []) [] rfl
  refine c_callR (va_runS (As := [.int v, .int 0, .int 3]) (rest := []) ⟨hx, hb, hml, hown, hts⟩ (q_isIn l D L0 v 0 3) (va_cwS 3 hts gX3_isSide_X3_isIn rfl rfl rfl (by decide +kernel) ⟨Nat.le_of_ble_eq_true rfl, Nat.le_of_ble_eq_true rfl⟩) ⟨cP_blind, cP_of hPc hKc hDc (kE_at hE0 hAL hS)⟩ rfl rfl hl.1 rfl (lv_room (Nat.le_of_ble_eq_true rfl)) dX3_isSide_3 ⟨Nat.le_of_ble_eq_true rfl, Nat.le_of_ble_eq_true rfl⟩) ?_
  show W _ _ _ _ _ _ _ _ _ _ _ _ _ _ _ (F0 m 6 ls [.int (bI (decide (0 ≤ v) && decide (v ≤ 3)))])
  exact W.zret (v := (bI (decide (0 ≤ v) && decide (v ≤ 3)))) hx hb hRt (bI_nar _) (fun t ht hW => ⟨rfl, ht⟩) hS.2.2 dX3_isSide_6
set_option maxHeartbeats 4000000 in
set_option maxRecDepth 100000 in
/-- isDirection -/
theorem q_isDirection (l : Launch) (D : va_G) (L0 : Nat) (v : Int32) : Met l yX3_isDirection wsX3_isDirection ({ frames := 1, cells := 0, slots := 0, locals := 22 }) (cP L0 D [] [] [.int v]) (cR (some (.int (bI (decide (0 ≤ v) && decide (v ≤ 7)))))) 0 0 (fun _ => False) := by
  refine Met.ofW (cc := cX3_isDirection) (maxL := 1) (ret := (some .boolean)) (by decide) rfl ?_
  intro p e s m args below meth c s₁ B hml hv
  obtain ⟨rfl, hP, hK, hD0, hE0⟩ := hv
  have hx := B.exec
  have hb := B.bytes
  have hRt := B.returns
  have hts := atoms_spec (ws := wsX3_isDirection) B.pre
  have hown : s.vm.findClass RX3 = some m.cls := findClass_of_methodNamed B.named
  have hlocks := B.notSynchronized
  have hAL : ∀ z9 : Nat, (fun _ : Nat => False) z9 → L0 ≤ z9 := fun z9 h9 => False.elim h9
  generalize hAe : (fun _ : Nat => False) = A at hAL ⊢
  have hS : va_S A s.heap s.heap [] := va_S.rf
  have hl := lv_entry ([.int v]) (n := 1) (Nat.le_of_ble_eq_true rfl)
  rw [lg_entry_eq]
  generalize (lg_sl ([.int v]) ++ List.replicate (1 - (lg_sl ([.int v])).length) Slot.unset).toArray = ls at hl ⊢
  have hl : lv_has ls 1 [(0, .int v)] := hl
  refine lv_iload_n hx hb dX3_isDirection_0 rfl (lv_at hl 0 rfl) ?_
  refine lv_iconst (v := 0) hx hb dX3_isDirection_1 (by decide) ?_
  refine lv_bipush (v := 7) hx hb dX3_isDirection_2 (by decide) ?_
  have hPc := hP.sub (ws' := []) [] rfl
  have hDc := hD0.sub (ws' := []) [] (by decide) rfl
  have hKc := hK.sub (tys' := []) [] rfl
  refine c_callR (va_runS (As := [.int v, .int 0, .int 7]) (rest := []) ⟨hx, hb, hml, hown, hts⟩ (q_isIn l D L0 v 0 7) (va_cwS 3 hts gX3_isDirection_X3_isIn rfl rfl rfl (by decide +kernel) ⟨Nat.le_of_ble_eq_true rfl, Nat.le_of_ble_eq_true rfl⟩) ⟨cP_blind, cP_of hPc hKc hDc (kE_at hE0 hAL hS)⟩ rfl rfl hl.1 rfl (lv_room (Nat.le_of_ble_eq_true rfl)) dX3_isDirection_4 ⟨Nat.le_of_ble_eq_true rfl, Nat.le_of_ble_eq_true rfl⟩) ?_
  show W _ _ _ _ _ _ _ _ _ _ _ _ _ _ _ (F0 m 7 ls [.int (bI (decide (0 ≤ v) && decide (v ≤ 7)))])
  exact W.zret (v := (bI (decide (0 ≤ v) && decide (v ≤ 7)))) hx hb hRt (bI_nar _) (fun t ht hW => ⟨rfl, ht⟩) hS.2.2 dX3_isDirection_7
set_option maxHeartbeats 4000000 in
set_option maxRecDepth 100000 in
/-- isReach -/
theorem q_isReach (l : Launch) (D : va_G) (L0 : Nat) (v : Int32) : Met l yX3_isReach wsX3_isReach ({ frames := 1, cells := 0, slots := 0, locals := 22 }) (cP L0 D [] [] [.int v]) (cR (some (.int (bI (decide (3 ≤ v) && decide (v ≤ 30)))))) 0 0 (fun _ => False) := by
  refine Met.ofW (cc := cX3_isReach) (maxL := 1) (ret := (some .boolean)) (by decide) rfl ?_
  intro p e s m args below meth c s₁ B hml hv
  obtain ⟨rfl, hP, hK, hD0, hE0⟩ := hv
  have hx := B.exec
  have hb := B.bytes
  have hRt := B.returns
  have hts := atoms_spec (ws := wsX3_isReach) B.pre
  have hown : s.vm.findClass RX3 = some m.cls := findClass_of_methodNamed B.named
  have hlocks := B.notSynchronized
  have hAL : ∀ z9 : Nat, (fun _ : Nat => False) z9 → L0 ≤ z9 := fun z9 h9 => False.elim h9
  generalize hAe : (fun _ : Nat => False) = A at hAL ⊢
  have hS : va_S A s.heap s.heap [] := va_S.rf
  have hl := lv_entry ([.int v]) (n := 1) (Nat.le_of_ble_eq_true rfl)
  rw [lg_entry_eq]
  generalize (lg_sl ([.int v]) ++ List.replicate (1 - (lg_sl ([.int v])).length) Slot.unset).toArray = ls at hl ⊢
  have hl : lv_has ls 1 [(0, .int v)] := hl
  refine lv_iload_n hx hb dX3_isReach_0 rfl (lv_at hl 0 rfl) ?_
  refine lv_iconst (v := 3) hx hb dX3_isReach_1 (by decide) ?_
  refine lv_bipush (v := 30) hx hb dX3_isReach_2 (by decide) ?_
  have hPc := hP.sub (ws' := []) [] rfl
  have hDc := hD0.sub (ws' := []) [] (by decide) rfl
  have hKc := hK.sub (tys' := []) [] rfl
  refine c_callR (va_runS (As := [.int v, .int 3, .int 30]) (rest := []) ⟨hx, hb, hml, hown, hts⟩ (q_isIn l D L0 v 3 30) (va_cwS 3 hts gX3_isReach_X3_isIn rfl rfl rfl (by decide +kernel) ⟨Nat.le_of_ble_eq_true rfl, Nat.le_of_ble_eq_true rfl⟩) ⟨cP_blind, cP_of hPc hKc hDc (kE_at hE0 hAL hS)⟩ rfl rfl hl.1 rfl (lv_room (Nat.le_of_ble_eq_true rfl)) dX3_isReach_4 ⟨Nat.le_of_ble_eq_true rfl, Nat.le_of_ble_eq_true rfl⟩) ?_
  show W _ _ _ _ _ _ _ _ _ _ _ _ _ _ _ (F0 m 7 ls [.int (bI (decide (3 ≤ v) && decide (v ≤ 30)))])
  exact W.zret (v := (bI (decide (3 ≤ v) && decide (v ≤ 30)))) hx hb hRt (bI_nar _) (fun t ht hW => ⟨rfl, ht⟩) hS.2.2 dX3_isReach_7
set_option maxHeartbeats 4000000 in
set_option maxRecDepth 100000 in
/-- isLoad -/
theorem q_isLoad (l : Launch) (D : va_G) (L0 : Nat) (v : Int32) : Met l yX3_isLoad wsX3_isLoad ({ frames := 1, cells := 0, slots := 0, locals := 22 }) (cP L0 D [] [] [.int v]) (cR (some (.int (bI (decide (0 ≤ v) && decide (v ≤ 60)))))) 0 0 (fun _ => False) := by
  refine Met.ofW (cc := cX3_isLoad) (maxL := 1) (ret := (some .boolean)) (by decide) rfl ?_
  intro p e s m args below meth c s₁ B hml hv
  obtain ⟨rfl, hP, hK, hD0, hE0⟩ := hv
  have hx := B.exec
  have hb := B.bytes
  have hRt := B.returns
  have hts := atoms_spec (ws := wsX3_isLoad) B.pre
  have hown : s.vm.findClass RX3 = some m.cls := findClass_of_methodNamed B.named
  have hlocks := B.notSynchronized
  have hAL : ∀ z9 : Nat, (fun _ : Nat => False) z9 → L0 ≤ z9 := fun z9 h9 => False.elim h9
  generalize hAe : (fun _ : Nat => False) = A at hAL ⊢
  have hS : va_S A s.heap s.heap [] := va_S.rf
  have hl := lv_entry ([.int v]) (n := 1) (Nat.le_of_ble_eq_true rfl)
  rw [lg_entry_eq]
  generalize (lg_sl ([.int v]) ++ List.replicate (1 - (lg_sl ([.int v])).length) Slot.unset).toArray = ls at hl ⊢
  have hl : lv_has ls 1 [(0, .int v)] := hl
  refine lv_iload_n hx hb dX3_isLoad_0 rfl (lv_at hl 0 rfl) ?_
  refine lv_iconst (v := 0) hx hb dX3_isLoad_1 (by decide) ?_
  refine lv_bipush (v := 60) hx hb dX3_isLoad_2 (by decide) ?_
  have hPc := hP.sub (ws' := []) [] rfl
  have hDc := hD0.sub (ws' := []) [] (by decide) rfl
  have hKc := hK.sub (tys' := []) [] rfl
  refine c_callR (va_runS (As := [.int v, .int 0, .int 60]) (rest := []) ⟨hx, hb, hml, hown, hts⟩ (q_isIn l D L0 v 0 60) (va_cwS 3 hts gX3_isLoad_X3_isIn rfl rfl rfl (by decide +kernel) ⟨Nat.le_of_ble_eq_true rfl, Nat.le_of_ble_eq_true rfl⟩) ⟨cP_blind, cP_of hPc hKc hDc (kE_at hE0 hAL hS)⟩ rfl rfl hl.1 rfl (lv_room (Nat.le_of_ble_eq_true rfl)) dX3_isLoad_4 ⟨Nat.le_of_ble_eq_true rfl, Nat.le_of_ble_eq_true rfl⟩) ?_
  show W _ _ _ _ _ _ _ _ _ _ _ _ _ _ _ (F0 m 7 ls [.int (bI (decide (0 ≤ v) && decide (v ≤ 60)))])
  exact W.zret (v := (bI (decide (0 ≤ v) && decide (v ≤ 60)))) hx hb hRt (bI_nar _) (fun t ht hW => ⟨rfl, ht⟩) hS.2.2 dX3_isLoad_7
set_option maxHeartbeats 4000000 in
set_option maxRecDepth 100000 in
/-- thrown() -/
theorem q_thrown (l : Launch) (D : va_G) (L0 : Nat) (mm ao al aw aq d r : Nat) (th ld pl li tl mo mn : Int32) : Met l yX3_thrown wsX3_thrown ({ frames := 0, cells := 0, slots := 0, locals := 0 }) (cP L0 D [] [(mm, .inr (3, [.int th, .int (nI d), .int (nI r), .int ld, .int pl, .ref ao, .ref al, .int li, .int tl, .int mo, .ref aw, .ref aq, .int mn]))] [.ref mm]) (cR (some (.int th))) 0 0 (fun _ => False) := by
  refine Met.ofW (cc := cX3_thrown) (maxL := 1) (ret := (some .int)) (by decide) rfl ?_
  intro p e s m args below meth c s₁ B hml hv
  obtain ⟨rfl, hP, hK, hD0, hE0⟩ := hv
  have hx := B.exec
  have hb := B.bytes
  have hRt := B.returns
  have hts := atoms_spec (ws := wsX3_thrown) B.pre
  have hown : s.vm.findClass RX3 = some m.cls := findClass_of_methodNamed B.named
  have hlocks := B.notSynchronized
  have hAL : ∀ z9 : Nat, (fun _ : Nat => False) z9 → L0 ≤ z9 := fun z9 h9 => False.elim h9
  generalize hAe : (fun _ : Nat => False) = A at hAL ⊢
  have hS : va_S A s.heap s.heap [] := va_S.rf
  have hiX3 : ∀ w ∈ u_ws RX3 TX3 13, w ∈ wsX3_thrown := by decide +kernel
  have hl := lv_entry ([.ref mm]) (n := 1) (Nat.le_of_ble_eq_true rfl)
  rw [lg_entry_eq]
  generalize (lg_sl ([.ref mm]) ++ List.replicate (1 - (lg_sl ([.ref mm])).length) Slot.unset).toArray = ls at hl ⊢
  have hl : lv_has ls 1 [(0, .ref mm)] := hl
  refine lv_aload_n hx hb dX3_thrown_0 rfl (lv_at hl 0 rfl) ?_
  refine va_get (D := D) (ci := 3) (v := .int th) (C := RX3) (T := TX3) (N := 13) hx hb hts hiX3 hown hK hP 0 rfl rfl 0 (by decide) (hts (.fieldLink RX3 26 "CraneReachModel" "thrown" "I") (by decide +kernel)) (fun _ h9 => h9) rfl dX3_thrown_1 ?_
  exact W.iret (v := th) hx hb hRt (fun t ht hW => ⟨rfl, ht⟩) hS.2.2 dX3_thrown_4
set_option maxHeartbeats 4000000 in
set_option maxRecDepth 100000 in
/-- no -/
theorem q_no (l : Launch) (D : va_G) (L0 : Nat) (mm ao al aw aq d r : Nat) (th ld pl li tl mo mn : Int32) (v : Int32) : Met l yX3_no wsX3_no ({ frames := 0, cells := 0, slots := 0, locals := 0 }) (cP L0 D [] [(mm, .inr (3, [.int th, .int (nI d), .int (nI r), .int ld, .int pl, .ref ao, .ref al, .int li, .int tl, .int mo, .ref aw, .ref aq, .int mn]))] [.ref mm, .int v]) (cB (some (.int 0)) (fun H => va_P D vwCl [(mm, .inr (3, [.int v, .int (nI d), .int (nI r), .int ld, .int pl, .ref ao, .ref al, .int li, .int tl, .int mo, .ref aw, .ref aq, .int mn]))] H) (cA [(mm, .inr (3, [.int th, .int (nI d), .int (nI r), .int ld, .int pl, .ref ao, .ref al, .int li, .int tl, .int mo, .ref aw, .ref aq, .int mn]))])) 0 0 (cA [(mm, .inr (3, [.int th, .int (nI d), .int (nI r), .int ld, .int pl, .ref ao, .ref al, .int li, .int tl, .int mo, .ref aw, .ref aq, .int mn]))]) := by
  refine Met.ofW (cc := cX3_no) (maxL := 2) (ret := (some .int)) (by decide) rfl ?_
  intro p e s m args below meth c s₁ B hml hv
  obtain ⟨rfl, hP, hK, hD0, hE0⟩ := hv
  have hx := B.exec
  have hb := B.bytes
  have hRt := B.returns
  have hts := atoms_spec (ws := wsX3_no) B.pre
  have hown : s.vm.findClass RX3 = some m.cls := findClass_of_methodNamed B.named
  have hlocks := B.notSynchronized
  have hAL : ∀ z9 : Nat, cA [(mm, .inr (3, [.int th, .int (nI d), .int (nI r), .int ld, .int pl, .ref ao, .ref al, .int li, .int tl, .int mo, .ref aw, .ref aq, .int mn]))] z9 → L0 ≤ z9 := fun z9 ⟨k9, e9, h9⟩ => hD0.2 k9 (z9, e9) h9
  have hD : va_D (cA [(mm, .inr (3, [.int th, .int (nI d), .int (nI r), .int ld, .int pl, .ref ao, .ref al, .int li, .int tl, .int mo, .ref aw, .ref aq, .int mn]))]) [(mm, .inr (3, [.int th, .int (nI d), .int (nI r), .int ld, .int pl, .ref ao, .ref al, .int li, .int tl, .int mo, .ref aw, .ref aq, .int mn]))] := ⟨hD0.1, fun k9 z9 h9 => cA_of h9⟩
  generalize hAe : cA [(mm, .inr (3, [.int th, .int (nI d), .int (nI r), .int ld, .int pl, .ref ao, .ref al, .int li, .int tl, .int mo, .ref aw, .ref aq, .int mn]))] = A at hD hAL ⊢
  have hS : va_S A s.heap s.heap [] := va_S.rf
  have hiX3 : ∀ w ∈ u_ws RX3 TX3 13, w ∈ wsX3_no := by decide +kernel
  have hl := lv_entry ([.ref mm, .int v]) (n := 2) (Nat.le_of_ble_eq_true rfl)
  rw [lg_entry_eq]
  generalize (lg_sl ([.ref mm, .int v]) ++ List.replicate (2 - (lg_sl ([.ref mm, .int v])).length) Slot.unset).toArray = ls at hl ⊢
  have hl : lv_has ls 2 [(0, .ref mm), (1, .int v)] := hl
  refine lv_aload_n hx hb dX3_no_0 rfl (lv_at hl 0 rfl) ?_
  refine lv_iload_n hx hb dX3_no_1 rfl (lv_at hl 1 rfl) ?_
  refine va_put (D := D) (ci := 3) (v := .int v) (ty := .int) (C := RX3) (T := TX3) (N := 13) hx hb hts hiX3 tyX3 tyX3_ok nmX3 hown hK hP hD hS 0 rfl rfl 0 (by decide) (hts (.fieldLink RX3 26 "CraneReachModel" "thrown" "I") (by decide +kernel)) (fun _ h9 => h9) rfl (by decide +kernel) rfl rfl (Nat.le_of_ble_eq_true rfl) dX3_no_2 (fun H locs hP hD hS => ?_)
  have hP : va_P D vwCl [(mm, .inr (3, [.int v, .int (nI d), .int (nI r), .int ld, .int pl, .ref ao, .ref al, .int li, .int tl, .int mo, .ref aw, .ref aq, .int mn]))] H := hP
  have hD : va_D A [(mm, .inr (3, [.int v, .int (nI d), .int (nI r), .int ld, .int pl, .ref ao, .ref al, .int li, .int tl, .int mo, .ref aw, .ref aq, .int mn]))] := hD
  refine lv_iconst (v := 0) hx hb dX3_no_5 (by decide) ?_
  exact W.iret (v := 0) hx hb hRt (fun t ht hW => ⟨⟨rfl, by rw [ht]; exact hP⟩, hS.F ht⟩) hS.2.2 dX3_no_6
set_option maxHeartbeats 4000000 in
set_option maxRecDepth 100000 in
/-- isNot -/
theorem q_isNot (l : Launch) (D : va_G) (L0 : Nat) (mm ao al aw aq d r : Nat) (th ld pl li tl mo mn : Int32) (v : Int32) : Met l yX3_isNot wsX3_isNot ({ frames := 0, cells := 0, slots := 0, locals := 0 }) (cP L0 D [] [(mm, .inr (3, [.int th, .int (nI d), .int (nI r), .int ld, .int pl, .ref ao, .ref al, .int li, .int tl, .int mo, .ref aw, .ref aq, .int mn]))] [.ref mm, .int v]) (cB (some (.int 0)) (fun H => va_P D vwCl [(mm, .inr (3, [.int v, .int (nI d), .int (nI r), .int ld, .int pl, .ref ao, .ref al, .int li, .int tl, .int mo, .ref aw, .ref aq, .int mn]))] H) (cA [(mm, .inr (3, [.int th, .int (nI d), .int (nI r), .int ld, .int pl, .ref ao, .ref al, .int li, .int tl, .int mo, .ref aw, .ref aq, .int mn]))])) 0 0 (cA [(mm, .inr (3, [.int th, .int (nI d), .int (nI r), .int ld, .int pl, .ref ao, .ref al, .int li, .int tl, .int mo, .ref aw, .ref aq, .int mn]))]) := by
  refine Met.ofW (cc := cX3_isNot) (maxL := 2) (ret := (some .boolean)) (by decide) rfl ?_
  intro p e s m args below meth c s₁ B hml hv
  obtain ⟨rfl, hP, hK, hD0, hE0⟩ := hv
  have hx := B.exec
  have hb := B.bytes
  have hRt := B.returns
  have hts := atoms_spec (ws := wsX3_isNot) B.pre
  have hown : s.vm.findClass RX3 = some m.cls := findClass_of_methodNamed B.named
  have hlocks := B.notSynchronized
  have hAL : ∀ z9 : Nat, cA [(mm, .inr (3, [.int th, .int (nI d), .int (nI r), .int ld, .int pl, .ref ao, .ref al, .int li, .int tl, .int mo, .ref aw, .ref aq, .int mn]))] z9 → L0 ≤ z9 := fun z9 ⟨k9, e9, h9⟩ => hD0.2 k9 (z9, e9) h9
  have hD : va_D (cA [(mm, .inr (3, [.int th, .int (nI d), .int (nI r), .int ld, .int pl, .ref ao, .ref al, .int li, .int tl, .int mo, .ref aw, .ref aq, .int mn]))]) [(mm, .inr (3, [.int th, .int (nI d), .int (nI r), .int ld, .int pl, .ref ao, .ref al, .int li, .int tl, .int mo, .ref aw, .ref aq, .int mn]))] := ⟨hD0.1, fun k9 z9 h9 => cA_of h9⟩
  generalize hAe : cA [(mm, .inr (3, [.int th, .int (nI d), .int (nI r), .int ld, .int pl, .ref ao, .ref al, .int li, .int tl, .int mo, .ref aw, .ref aq, .int mn]))] = A at hD hAL ⊢
  have hS : va_S A s.heap s.heap [] := va_S.rf
  have hiX3 : ∀ w ∈ u_ws RX3 TX3 13, w ∈ wsX3_isNot := by decide +kernel
  have hl := lv_entry ([.ref mm, .int v]) (n := 2) (Nat.le_of_ble_eq_true rfl)
  rw [lg_entry_eq]
  generalize (lg_sl ([.ref mm, .int v]) ++ List.replicate (2 - (lg_sl ([.ref mm, .int v])).length) Slot.unset).toArray = ls at hl ⊢
  have hl : lv_has ls 2 [(0, .ref mm), (1, .int v)] := hl
  refine lv_aload_n hx hb dX3_isNot_0 rfl (lv_at hl 0 rfl) ?_
  refine lv_iload_n hx hb dX3_isNot_1 rfl (lv_at hl 1 rfl) ?_
  refine va_put (D := D) (ci := 3) (v := .int v) (ty := .int) (C := RX3) (T := TX3) (N := 13) hx hb hts hiX3 tyX3 tyX3_ok nmX3 hown hK hP hD hS 0 rfl rfl 0 (by decide) (hts (.fieldLink RX3 26 "CraneReachModel" "thrown" "I") (by decide +kernel)) (fun _ h9 => h9) rfl (by decide +kernel) rfl rfl (Nat.le_of_ble_eq_true rfl) dX3_isNot_2 (fun H locs hP hD hS => ?_)
  have hP : va_P D vwCl [(mm, .inr (3, [.int v, .int (nI d), .int (nI r), .int ld, .int pl, .ref ao, .ref al, .int li, .int tl, .int mo, .ref aw, .ref aq, .int mn]))] H := hP
  have hD : va_D A [(mm, .inr (3, [.int v, .int (nI d), .int (nI r), .int ld, .int pl, .ref ao, .ref al, .int li, .int tl, .int mo, .ref aw, .ref aq, .int mn]))] := hD
  refine lv_iconst (v := 0) hx hb dX3_isNot_5 (by decide) ?_
  exact W.zret (v := 0) hx hb hRt rfl (fun t ht hW => ⟨⟨rfl, by rw [ht]; exact hP⟩, hS.F ht⟩) hS.2.2 dX3_isNot_6
set_option maxHeartbeats 4000000 in
set_option maxRecDepth 100000 in
/-- ok(told) -/
theorem q_ok (l : Launch) (D : va_G) (L0 : Nat) (mm ao al aw aq d r : Nat) (th ld pl li tl mo mn : Int32) (v : Int32) : Met l yX3_ok wsX3_ok ({ frames := 0, cells := 0, slots := 0, locals := 0 }) (cP L0 D [] [(mm, .inr (3, [.int th, .int (nI d), .int (nI r), .int ld, .int pl, .ref ao, .ref al, .int li, .int tl, .int mo, .ref aw, .ref aq, .int mn]))] [.ref mm, .int v]) (cB (some (.int v)) (fun H => va_P D vwCl [(mm, .inr (3, [.int 0, .int (nI d), .int (nI r), .int ld, .int pl, .ref ao, .ref al, .int li, .int tl, .int mo, .ref aw, .ref aq, .int mn]))] H) (cA [(mm, .inr (3, [.int th, .int (nI d), .int (nI r), .int ld, .int pl, .ref ao, .ref al, .int li, .int tl, .int mo, .ref aw, .ref aq, .int mn]))])) 0 0 (cA [(mm, .inr (3, [.int th, .int (nI d), .int (nI r), .int ld, .int pl, .ref ao, .ref al, .int li, .int tl, .int mo, .ref aw, .ref aq, .int mn]))]) := by
  refine Met.ofW (cc := cX3_ok) (maxL := 2) (ret := (some .int)) (by decide) rfl ?_
  intro p e s m args below meth c s₁ B hml hv
  obtain ⟨rfl, hP, hK, hD0, hE0⟩ := hv
  have hx := B.exec
  have hb := B.bytes
  have hRt := B.returns
  have hts := atoms_spec (ws := wsX3_ok) B.pre
  have hown : s.vm.findClass RX3 = some m.cls := findClass_of_methodNamed B.named
  have hlocks := B.notSynchronized
  have hAL : ∀ z9 : Nat, cA [(mm, .inr (3, [.int th, .int (nI d), .int (nI r), .int ld, .int pl, .ref ao, .ref al, .int li, .int tl, .int mo, .ref aw, .ref aq, .int mn]))] z9 → L0 ≤ z9 := fun z9 ⟨k9, e9, h9⟩ => hD0.2 k9 (z9, e9) h9
  have hD : va_D (cA [(mm, .inr (3, [.int th, .int (nI d), .int (nI r), .int ld, .int pl, .ref ao, .ref al, .int li, .int tl, .int mo, .ref aw, .ref aq, .int mn]))]) [(mm, .inr (3, [.int th, .int (nI d), .int (nI r), .int ld, .int pl, .ref ao, .ref al, .int li, .int tl, .int mo, .ref aw, .ref aq, .int mn]))] := ⟨hD0.1, fun k9 z9 h9 => cA_of h9⟩
  generalize hAe : cA [(mm, .inr (3, [.int th, .int (nI d), .int (nI r), .int ld, .int pl, .ref ao, .ref al, .int li, .int tl, .int mo, .ref aw, .ref aq, .int mn]))] = A at hD hAL ⊢
  have hS : va_S A s.heap s.heap [] := va_S.rf
  have hiX3 : ∀ w ∈ u_ws RX3 TX3 13, w ∈ wsX3_ok := by decide +kernel
  have hl := lv_entry ([.ref mm, .int v]) (n := 2) (Nat.le_of_ble_eq_true rfl)
  rw [lg_entry_eq]
  generalize (lg_sl ([.ref mm, .int v]) ++ List.replicate (2 - (lg_sl ([.ref mm, .int v])).length) Slot.unset).toArray = ls at hl ⊢
  have hl : lv_has ls 2 [(0, .ref mm), (1, .int v)] := hl
  refine lv_aload_n hx hb dX3_ok_0 rfl (lv_at hl 0 rfl) ?_
  refine lv_iconst (v := 0) hx hb dX3_ok_1 (by decide) ?_
  refine va_put (D := D) (ci := 3) (v := .int 0) (ty := .int) (C := RX3) (T := TX3) (N := 13) hx hb hts hiX3 tyX3 tyX3_ok nmX3 hown hK hP hD hS 0 rfl rfl 0 (by decide) (hts (.fieldLink RX3 26 "CraneReachModel" "thrown" "I") (by decide +kernel)) (fun _ h9 => h9) rfl (by decide +kernel) rfl rfl (Nat.le_of_ble_eq_true rfl) dX3_ok_2 (fun H locs hP hD hS => ?_)
  have hP : va_P D vwCl [(mm, .inr (3, [.int 0, .int (nI d), .int (nI r), .int ld, .int pl, .ref ao, .ref al, .int li, .int tl, .int mo, .ref aw, .ref aq, .int mn]))] H := hP
  have hD : va_D A [(mm, .inr (3, [.int 0, .int (nI d), .int (nI r), .int ld, .int pl, .ref ao, .ref al, .int li, .int tl, .int mo, .ref aw, .ref aq, .int mn]))] := hD
  refine lv_iload_n hx hb dX3_ok_5 rfl (lv_at hl 1 rfl) ?_
  exact W.iret (v := v) hx hb hRt (fun t ht hW => ⟨⟨rfl, by rw [ht]; exact hP⟩, hS.F ht⟩) hS.2.2 dX3_ok_6
set_option maxHeartbeats 4000000 in
set_option maxRecDepth 100000 in
/-- moved() -/
theorem q_moved (l : Launch) (D : va_G) (L0 : Nat) (mm ao al aw aq d r : Nat) (th ld pl li tl mo mn : Int32) : Met l yX3_moved wsX3_moved ({ frames := 0, cells := 0, slots := 0, locals := 0 }) (cP L0 D [] [(mm, .inr (3, [.int th, .int (nI d), .int (nI r), .int ld, .int pl, .ref ao, .ref al, .int li, .int tl, .int mo, .ref aw, .ref aq, .int mn]))] [.ref mm]) (cB none (fun H => va_P D vwCl [(mm, .inr (3, [.int th, .int (nI d), .int (nI r), .int ld, .int pl, .ref ao, .ref al, .int li, .int tl, .int (mo + (if 0 < ld then 1 else 0)), .ref aw, .ref aq, .int mn]))] H) (cA [(mm, .inr (3, [.int th, .int (nI d), .int (nI r), .int ld, .int pl, .ref ao, .ref al, .int li, .int tl, .int mo, .ref aw, .ref aq, .int mn]))])) 0 0 (cA [(mm, .inr (3, [.int th, .int (nI d), .int (nI r), .int ld, .int pl, .ref ao, .ref al, .int li, .int tl, .int mo, .ref aw, .ref aq, .int mn]))]) := by
  refine Met.ofW (cc := cX3_moved) (maxL := 1) (ret := none) (by decide) rfl ?_
  intro p e s m args below meth c s₁ B hml hv
  obtain ⟨rfl, hP, hK, hD0, hE0⟩ := hv
  have hx := B.exec
  have hb := B.bytes
  have hRt := B.returns
  have hts := atoms_spec (ws := wsX3_moved) B.pre
  have hown : s.vm.findClass RX3 = some m.cls := findClass_of_methodNamed B.named
  have hlocks := B.notSynchronized
  have hAL : ∀ z9 : Nat, cA [(mm, .inr (3, [.int th, .int (nI d), .int (nI r), .int ld, .int pl, .ref ao, .ref al, .int li, .int tl, .int mo, .ref aw, .ref aq, .int mn]))] z9 → L0 ≤ z9 := fun z9 ⟨k9, e9, h9⟩ => hD0.2 k9 (z9, e9) h9
  have hD : va_D (cA [(mm, .inr (3, [.int th, .int (nI d), .int (nI r), .int ld, .int pl, .ref ao, .ref al, .int li, .int tl, .int mo, .ref aw, .ref aq, .int mn]))]) [(mm, .inr (3, [.int th, .int (nI d), .int (nI r), .int ld, .int pl, .ref ao, .ref al, .int li, .int tl, .int mo, .ref aw, .ref aq, .int mn]))] := ⟨hD0.1, fun k9 z9 h9 => cA_of h9⟩
  generalize hAe : cA [(mm, .inr (3, [.int th, .int (nI d), .int (nI r), .int ld, .int pl, .ref ao, .ref al, .int li, .int tl, .int mo, .ref aw, .ref aq, .int mn]))] = A at hD hAL ⊢
  have hS : va_S A s.heap s.heap [] := va_S.rf
  have hiX3 : ∀ w ∈ u_ws RX3 TX3 13, w ∈ wsX3_moved := by decide +kernel
  have hl := lv_entry ([.ref mm]) (n := 1) (Nat.le_of_ble_eq_true rfl)
  rw [lg_entry_eq]
  generalize (lg_sl ([.ref mm]) ++ List.replicate (1 - (lg_sl ([.ref mm])).length) Slot.unset).toArray = ls at hl ⊢
  have hl : lv_has ls 1 [(0, .ref mm)] := hl
  refine lv_aload_n hx hb dX3_moved_0 rfl (lv_at hl 0 rfl) ?_
  refine lv_dup hx hb dX3_moved_1 rfl ?_
  refine va_get (D := D) (ci := 3) (v := .int mo) (C := RX3) (T := TX3) (N := 13) hx hb hts hiX3 hown hK hP 0 rfl rfl 9 (by decide) (hts (.fieldLink RX3 84 "CraneReachModel" "moves" "I") (by decide +kernel)) (fun _ h9 => h9) rfl dX3_moved_2 ?_
  refine lv_aload_n hx hb dX3_moved_5 rfl (lv_at hl 0 rfl) ?_
  refine va_get (D := D) (ci := 3) (v := .int ld) (C := RX3) (T := TX3) (N := 13) hx hb hts hiX3 hown hK hP 0 rfl rfl 3 (by decide) (hts (.fieldLink RX3 53 "CraneReachModel" "load" "I") (by decide +kernel)) (fun _ h9 => h9) rfl dX3_moved_6 ?_
  refine lv_if_le (tgt := 16) hx hb dX3_moved_9 (by decide) (fun c_3 => ?_) (fun c_3 => ?_)
  · refine lv_iconst (v := 0) hx hb dX3_moved_16 (by decide) ?_
    refine lv_iadd hx hb dX3_moved_17 ?_
    refine va_put (D := D) (ci := 3) (v := .int (mo + 0)) (ty := .int) (C := RX3) (T := TX3) (N := 13) hx hb hts hiX3 tyX3 tyX3_ok nmX3 hown hK hP hD hS 0 rfl rfl 9 (by decide) (hts (.fieldLink RX3 84 "CraneReachModel" "moves" "I") (by decide +kernel)) (fun _ h9 => h9) rfl (by decide +kernel) rfl rfl (Nat.le_of_ble_eq_true rfl) dX3_moved_18 (fun H locs hP hD hS => ?_)
    have hP : va_P D vwCl [(mm, .inr (3, [.int th, .int (nI d), .int (nI r), .int ld, .int pl, .ref ao, .ref al, .int li, .int tl, .int (mo + 0), .ref aw, .ref aq, .int mn]))] H := hP
    have hD : va_D A [(mm, .inr (3, [.int th, .int (nI d), .int (nI r), .int ld, .int pl, .ref ao, .ref al, .int li, .int tl, .int (mo + 0), .ref aw, .ref aq, .int mn]))] := hD
    exact W.vret hx hb hRt (fun t ht hW => ⟨⟨rfl, by rw [ht]; exact by rw [if_neg (i_len c_3)]; exact hP⟩, hS.F ht⟩) hS.2.2 dX3_moved_21
  · refine lv_iconst (v := 1) hx hb dX3_moved_12 (by decide) ?_
    refine lv_goto (tgt := 17) hx hb dX3_moved_13 (by decide) ?_
    refine lv_iadd hx hb dX3_moved_17 ?_
    refine va_put (D := D) (ci := 3) (v := .int (mo + 1)) (ty := .int) (C := RX3) (T := TX3) (N := 13) hx hb hts hiX3 tyX3 tyX3_ok nmX3 hown hK hP hD hS 0 rfl rfl 9 (by decide) (hts (.fieldLink RX3 84 "CraneReachModel" "moves" "I") (by decide +kernel)) (fun _ h9 => h9) rfl (by decide +kernel) rfl rfl (Nat.le_of_ble_eq_true rfl) dX3_moved_18 (fun H locs hP hD hS => ?_)
    have hP : va_P D vwCl [(mm, .inr (3, [.int th, .int (nI d), .int (nI r), .int ld, .int pl, .ref ao, .ref al, .int li, .int tl, .int (mo + 1), .ref aw, .ref aq, .int mn]))] H := hP
    have hD : va_D A [(mm, .inr (3, [.int th, .int (nI d), .int (nI r), .int ld, .int pl, .ref ao, .ref al, .int li, .int tl, .int (mo + 1), .ref aw, .ref aq, .int mn]))] := hD
    exact W.vret hx hb hRt (fun t ht hW => ⟨⟨rfl, by rw [ht]; exact by rw [if_pos (i_nle c_3)]; exact hP⟩, hS.F ht⟩) hS.2.2 dX3_moved_21
set_option maxHeartbeats 4000000 in
set_option maxRecDepth 100000 in
/-- strain(side, tons, d, r) -/
theorem q_strain (l : Launch) (D : va_G) (L0 : Nat) (cI : ClassId) (mm ao al aw aq d r : Nat) (th ld pl li tl mo mn : Int32) (fo fl : Nat → Int32) (k d2 r2 : Nat) (tons : Int32) (hk : k < 4) (hd : d2 < 8) : Met l yX3_strain wsX3_strain ({ frames := 1, cells := 0, slots := 0, locals := 30 }) (cP L0 D [(cI, .int)] [(mm, .inr (3, [.int th, .int (nI d), .int (nI r), .int ld, .int pl, .ref ao, .ref al, .int li, .int tl, .int mo, .ref aw, .ref aq, .int mn])), (ao, .inl (cI, 4, .inl fo)), (al, .inl (cI, 31, .inl fl))] [.ref mm, .int (nI k), .int tons, .int (nI d2), .int (nI r2)]) (cR (some (.int (strS fo pl k tons d2 r2)))) 0 0 (fun _ => False) := by
  refine Met.ofW (cc := cX3_strain) (maxL := 8) (ret := (some .int)) (by decide) rfl ?_
  intro p e s m args below meth c s₁ B hml hv
  obtain ⟨rfl, hP, hK, hD0, hE0⟩ := hv
  have hx := B.exec
  have hb := B.bytes
  have hRt := B.returns
  have hts := atoms_spec (ws := wsX3_strain) B.pre
  have hown : s.vm.findClass RX3 = some m.cls := findClass_of_methodNamed B.named
  have hlocks := B.notSynchronized
  have hAL : ∀ z9 : Nat, (fun _ : Nat => False) z9 → L0 ≤ z9 := fun z9 h9 => False.elim h9
  generalize hAe : (fun _ : Nat => False) = A at hAL ⊢
  have hS : va_S A s.heap s.heap [] := va_S.rf
  have hiX3 : ∀ w ∈ u_ws RX3 TX3 13, w ∈ wsX3_strain := by decide +kernel
  have hl := lv_entry ([.ref mm, .int (nI k), .int tons, .int (nI d2), .int (nI r2)]) (n := 8) (Nat.le_of_ble_eq_true rfl)
  rw [lg_entry_eq]
  generalize (lg_sl ([.ref mm, .int (nI k), .int tons, .int (nI d2), .int (nI r2)]) ++ List.replicate (8 - (lg_sl ([.ref mm, .int (nI k), .int tons, .int (nI d2), .int (nI r2)])).length) Slot.unset).toArray = ls at hl ⊢
  have hl : lv_has ls 8 [(0, .ref mm), (1, .int (nI k)), (2, .int tons), (3, .int (nI d2)), (4, .int (nI r2))] := hl
  obtain ⟨ta, hZ, hT⟩ := hE0.2.2.2.1
  have hZ := hZ.narrow (B := A) hAL
  have hT := hT.narrow (B := A) hAL
  refine lv_iload_n hx hb dX3_strain_0 rfl (lv_at hl 3 rfl) ?_
  refine lv_iconst (v := 2) hx hb dX3_strain_1 (by decide) ?_
  refine lv_iload_n hx hb dX3_strain_2 rfl (lv_at hl 1 rfl) ?_
  refine lv_imul hx hb dX3_strain_3 ?_
  refine lv_isub hx hb dX3_strain_4 ?_
  refine va_mabs hx hb (hml.trans hl.1.symm) hown (hts (.methodLink RX3 33 Lib.Math.abs.name) (by decide +kernel)) (hts (.static Lib.Math.abs.name) (by decide +kernel)) (hts (.initialized "java/lang/Math") (by decide +kernel)) (hts (.code Lib.Math.abs.name Lib.Math.abs.code 1 (some .int)) (by decide +kernel)) (Nat.le_of_ble_eq_true rfl) (Nat.le_of_ble_eq_true rfl) (Nat.zero_le _) (Nat.zero_le _) dX3_strain_5 ?_
  refine c_top (show (if 0 ≤ ((nI d2) - (2 * (nI k))) then ((nI d2) - (2 * (nI k))) else 0 - ((nI d2) - (2 * (nI k)))) = nI (if 2 * k ≤ d2 then d2 - 2 * k else 2 * k - d2) from jx_abs2 d2 hd k hk) ?_
  refine lv_istore (lv' := [(5, .int (nI (if 2 * k ≤ d2 then d2 - 2 * k else 2 * k - d2))), (0, .ref mm), (1, .int (nI k)), (2, .int tons), (3, .int (nI d2)), (4, .int (nI r2))]) hx hb dX3_strain_8 hl (by decide) rfl (fun ls hl => ?_)
  refine va_gets hx hb hZ hS hown (hts (.fieldLink RX3 39 "CraneReachModel" "SLANT" "[I") (by decide +kernel)) (fun _ h9 => h9) dX3_strain_10 ?_
  refine lv_iload hx hb dX3_strain_13 (lv_at hl 0 rfl) ?_
  refine lv_bipush (v := 8) hx hb dX3_strain_15 (by decide) ?_
  refine lv_iload hx hb dX3_strain_17 (lv_at hl 0 rfl) ?_
  refine lv_isub hx hb dX3_strain_19 ?_
  refine va_mmin hx hb (hml.trans hl.1.symm) hown (hts (.methodLink RX3 42 Lib.Math.min.name) (by decide +kernel)) (hts (.static Lib.Math.min.name) (by decide +kernel)) (hts (.initialized "java/lang/Math") (by decide +kernel)) (hts (.code Lib.Math.min.name Lib.Math.min.code 2 (some .int)) (by decide +kernel)) (Nat.le_of_ble_eq_true rfl) (Nat.le_of_ble_eq_true rfl) (Nat.zero_le _) (Nat.zero_le _) dX3_strain_20 ?_
  refine c_top (show (if (8 - (nI (if 2 * k ≤ d2 then d2 - 2 * k else 2 * k - d2))) < (nI (if 2 * k ≤ d2 then d2 - 2 * k else 2 * k - d2)) then (8 - (nI (if 2 * k ≤ d2 then d2 - 2 * k else 2 * k - d2))) else (nI (if 2 * k ≤ d2 then d2 - 2 * k else 2 * k - d2))) = nI (jN d2 k) from jx_min d2 hd k hk) ?_
  refine va_ti hx hb hT hS (vp_in_nI (jN_lt d2 hd k hk) (by decide)) (v := .int (slN d2 k)) (by rw [nI_clamp (by have := jN_lt d2 hd k hk; omega), kSl_at, jN_sl d2 hd k hk]) dX3_strain_23 ?_
  refine lv_istore (lv' := [(6, .int (slN d2 k)), (5, .int (nI (if 2 * k ≤ d2 then d2 - 2 * k else 2 * k - d2))), (0, .ref mm), (1, .int (nI k)), (2, .int tons), (3, .int (nI d2)), (4, .int (nI r2))]) hx hb dX3_strain_24 hl (by decide) rfl (fun ls hl => ?_)
  refine lv_bipush (v := 10) hx hb dX3_strain_26 (by decide) ?_
  refine lv_iconst (v := 2) hx hb dX3_strain_28 (by decide) ?_
  refine lv_aload_n hx hb dX3_strain_29 rfl (lv_at hl 2 rfl) ?_
  refine va_get (D := D) (ci := 3) (v := .ref ao) (C := RX3) (T := TX3) (N := 13) hx hb hts hiX3 hown hK hP 0 rfl rfl 5 (by decide) (hts (.fieldLink RX3 13 "CraneReachModel" "out" "[I") (by decide +kernel)) (fun _ h9 => h9) rfl dX3_strain_30 ?_
  refine lv_iload_n hx hb dX3_strain_33 rfl (lv_at hl 3 rfl) ?_
  refine va_iald hx hb hK hP 1 0 rfl rfl (vp_in_nI hk (by decide)) dX3_strain_34 ?_
  refine c_top (show (fo (nI k).toNatClampNeg) = fo k from by rw [nI_clamp (by omega)]) ?_
  refine lv_iadd hx hb dX3_strain_35 ?_
  refine lv_imul hx hb dX3_strain_36 ?_
  refine lv_istore (lv' := [(7, .int (10 * (2 + (fo k)))), (6, .int (slN d2 k)), (5, .int (nI (if 2 * k ≤ d2 then d2 - 2 * k else 2 * k - d2))), (0, .ref mm), (1, .int (nI k)), (2, .int tons), (3, .int (nI d2)), (4, .int (nI r2))]) hx hb dX3_strain_37 hl (by decide) rfl (fun ls hl => ?_)
  refine lv_iload_n hx hb dX3_strain_39 rfl (lv_at hl 5 rfl) ?_
  refine lv_iload hx hb dX3_strain_40 (lv_at hl 7 rfl) ?_
  refine lv_iload hx hb dX3_strain_42 (lv_at hl 1 rfl) ?_
  refine lv_imul hx hb dX3_strain_44 ?_
  refine lv_iload hx hb dX3_strain_45 (lv_at hl 0 rfl) ?_
  refine lv_isub hx hb dX3_strain_47 ?_
  refine lv_imul hx hb dX3_strain_48 ?_
  refine lv_iconst (v := 2) hx hb dX3_strain_49 (by decide) ?_
  refine lv_aload_n hx hb dX3_strain_50 rfl (lv_at hl 3 rfl) ?_
  refine va_get (D := D) (ci := 3) (v := .int pl) (C := RX3) (T := TX3) (N := 13) hx hb hts hiX3 hown hK hP 0 rfl rfl 4 (by decide) (hts (.fieldLink RX3 46 "CraneReachModel" "plates" "I") (by decide +kernel)) (fun _ h9 => h9) rfl dX3_strain_51 ?_
  refine lv_imul hx hb dX3_strain_54 ?_
  refine lv_iconst (v := 4) hx hb dX3_strain_55 (by decide) ?_
  refine lv_iload hx hb dX3_strain_56 (lv_at hl 1 rfl) ?_
  refine lv_imul hx hb dX3_strain_58 ?_
  refine lv_iload hx hb dX3_strain_59 (lv_at hl 0 rfl) ?_
  refine lv_iadd hx hb dX3_strain_61 ?_
  refine lv_imul hx hb dX3_strain_62 ?_
  refine lv_isub hx hb dX3_strain_63 ?_
  refine lv_bipush (v := 20) hx hb dX3_strain_64 (by decide) ?_
  refine lv_iload hx hb dX3_strain_66 (lv_at hl 0 rfl) ?_
  refine lv_imul hx hb dX3_strain_68 ?_
  refine lv_isub hx hb dX3_strain_69 ?_
  exact W.iret (v := (((tons * (((nI r2) * (slN d2 k)) - (10 * (2 + (fo k))))) - ((2 * pl) * ((4 * (slN d2 k)) + (10 * (2 + (fo k)))))) - (20 * (10 * (2 + (fo k)))))) hx hb hRt (fun t ht hW => ⟨by rw [← strS_m]; rfl, ht⟩) hS.2.2 dX3_strain_70
set_option maxHeartbeats 4000000 in
set_option maxRecDepth 100000 in
/-- isSafe(tons, d, r) -/
theorem q_isSafe (l : Launch) (D : va_G) (L0 : Nat) (cI : ClassId) (mm ao al aw aq d r : Nat) (th ld pl li tl mo mn : Int32) (fo fl : Nat → Int32) (d2 r2 : Nat) (tons : Int32) (hd : d2 < 8) (hr : 3 ≤ r2 ∧ r2 ≤ 30) : Met l yX3_isSafe wsX3_isSafe ({ frames := 2, cells := 0, slots := 0, locals := 57 }) (cP L0 D [(cI, .int)] [(mm, .inr (3, [.int th, .int (nI d), .int (nI r), .int ld, .int pl, .ref ao, .ref al, .int li, .int tl, .int mo, .ref aw, .ref aq, .int mn])), (ao, .inl (cI, 4, .inl fo)), (al, .inl (cI, 31, .inl fl))] [.ref mm, .int tons, .int (nI d2), .int (nI r2)]) (cR (some (.int (bI (safS fo fl pl tons d2 r2))))) 0 0 (fun _ => False) := by
  refine Met.ofW (cc := cX3_isSafe) (maxL := 5) (ret := (some .boolean)) (by decide) rfl ?_
  intro p e s m args below meth c s₁ B hml hv
  obtain ⟨rfl, hP, hK, hD0, hE0⟩ := hv
  have hx := B.exec
  have hb := B.bytes
  have hRt := B.returns
  have hts := atoms_spec (ws := wsX3_isSafe) B.pre
  have hown : s.vm.findClass RX3 = some m.cls := findClass_of_methodNamed B.named
  have hlocks := B.notSynchronized
  have hAL : ∀ z9 : Nat, (fun _ : Nat => False) z9 → L0 ≤ z9 := fun z9 h9 => False.elim h9
  generalize hAe : (fun _ : Nat => False) = A at hAL ⊢
  have hS : va_S A s.heap s.heap [] := va_S.rf
  have hiX3 : ∀ w ∈ u_ws RX3 TX3 13, w ∈ wsX3_isSafe := by decide +kernel
  have hl := lv_entry ([.ref mm, .int tons, .int (nI d2), .int (nI r2)]) (n := 5) (Nat.le_of_ble_eq_true rfl)
  rw [lg_entry_eq]
  generalize (lg_sl ([.ref mm, .int tons, .int (nI d2), .int (nI r2)]) ++ List.replicate (5 - (lg_sl ([.ref mm, .int tons, .int (nI d2), .int (nI r2)])).length) Slot.unset).toArray = ls at hl ⊢
  have hl : lv_has ls 5 [(0, .ref mm), (1, .int tons), (2, .int (nI d2)), (3, .int (nI r2))] := hl
  refine lv_iload_n hx hb dX3_isSafe_0 rfl (lv_at hl 1 rfl) ?_
  refine lv_aload_n hx hb dX3_isSafe_1 rfl (lv_at hl 0 rfl) ?_
  refine va_get (D := D) (ci := 3) (v := .ref al) (C := RX3) (T := TX3) (N := 13) hx hb hts hiX3 hown hK hP 0 rfl rfl 6 (by decide) (hts (.fieldLink RX3 17 "CraneReachModel" "limit" "[I") (by decide +kernel)) (fun _ h9 => h9) rfl dX3_isSafe_2 ?_
  refine lv_iload_n hx hb dX3_isSafe_5 rfl (lv_at hl 3 rfl) ?_
  refine va_iald hx hb hK hP 2 0 rfl rfl (vp_in_nI (by omega) (by decide)) dX3_isSafe_6 ?_
  refine c_top (show (fl (nI r2).toNatClampNeg) = fl r2 from by rw [nI_clamp (by omega)]) ?_
  refine lv_icmp_le (tgt := 12) hx hb dX3_isSafe_7 (by decide) (fun c_4 => ?_) (fun c_4 => ?_)
  · refine lv_iconst (v := 0) hx hb dX3_isSafe_12 (by decide) ?_
    refine lv_istore (lv' := [(4, .int 0), (0, .ref mm), (1, .int tons), (2, .int (nI d2)), (3, .int (nI r2))]) hx hb dX3_isSafe_13 hl (by decide) rfl (fun ls hl => ?_)
    refine lv_iload hx hb dX3_isSafe_15 (lv_at hl 0 rfl) ?_
    refine lv_iconst (v := 4) hx hb dX3_isSafe_17 (by decide) ?_
    refine lv_icmp_ge (tgt := 41) hx hb dX3_isSafe_18 (by decide) (fun c_5 => absurd c_5 (by decide)) (fun _ => ?_)
    refine lv_aload_n hx hb dX3_isSafe_21 rfl (lv_at hl 1 rfl) ?_
    refine lv_iload hx hb dX3_isSafe_22 (lv_at hl 0 rfl) ?_
    refine lv_iload_n hx hb dX3_isSafe_24 rfl (lv_at hl 2 rfl) ?_
    refine lv_iload_n hx hb dX3_isSafe_25 rfl (lv_at hl 3 rfl) ?_
    refine lv_iload_n hx hb dX3_isSafe_26 rfl (lv_at hl 4 rfl) ?_
    have hPc := hP.sub (ws' := [(mm, .inr (3, [.int th, .int (nI d), .int (nI r), .int ld, .int pl, .ref ao, .ref al, .int li, .int tl, .int mo, .ref aw, .ref aq, .int mn])), (ao, .inl (cI, 4, .inl fo)), (al, .inl (cI, 31, .inl fl))]) [0, 1, 2] rfl
    have hDc := hD0.sub (ws' := [(mm, .inr (3, [.int th, .int (nI d), .int (nI r), .int ld, .int pl, .ref ao, .ref al, .int li, .int tl, .int mo, .ref aw, .ref aq, .int mn])), (ao, .inl (cI, 4, .inl fo)), (al, .inl (cI, 31, .inl fl))]) [0, 1, 2] (by decide) rfl
    have hKc := hK.sub (tys' := [(cI, .int)]) [0] rfl
    refine c_callR (va_runV (As := [.int (nI 0), .int tons, .int (nI d2), .int (nI r2)]) (rest := []) ⟨hx, hb, hml, hown, hts⟩ (q_strain l D L0 cI mm ao al aw aq d r th ld pl li tl mo mn fo fl 0 d2 r2 tons (by decide) hd) (cwV 4 hts gX3_isSafe_X3_strain rfl rfl rfl (by decide +kernel) ⟨Nat.le_of_ble_eq_true rfl, Nat.le_of_ble_eq_true rfl⟩) ⟨cP_blind, va_recv hKc hPc (ci := 3) (q0 := 0) rfl rfl, cP_of hPc hKc hDc (kE_at hE0 hAL hS)⟩ rfl rfl hl.1 rfl (lv_room (Nat.le_of_ble_eq_true rfl)) dX3_isSafe_27 ⟨Nat.le_of_ble_eq_true rfl, Nat.le_of_ble_eq_true rfl⟩) ?_
    show W _ _ _ _ _ _ _ _ _ _ _ _ _ _ _ (F0 m 30 ls [.int (strS fo pl 0 tons d2 r2)])
    refine lv_if_le (tgt := 35) hx hb dX3_isSafe_30 (by decide) (fun c_6 => ?_) (fun c_6 => ?_)
    · refine lv_iinc (v := 1) (lv' := [(4, .int 1), (0, .ref mm), (1, .int tons), (2, .int (nI d2)), (3, .int (nI r2))]) hx hb dX3_isSafe_35 hl (k := 0) rfl (by decide) (by decide) rfl (fun ls hl => ?_)
      refine lv_goto (tgt := 15) hx hb dX3_isSafe_38 (by decide) ?_
      refine lv_iload hx hb dX3_isSafe_15 (lv_at hl 0 rfl) ?_
      refine lv_iconst (v := 4) hx hb dX3_isSafe_17 (by decide) ?_
      refine lv_icmp_ge (tgt := 41) hx hb dX3_isSafe_18 (by decide) (fun c_7 => absurd c_7 (by decide)) (fun _ => ?_)
      refine lv_aload_n hx hb dX3_isSafe_21 rfl (lv_at hl 1 rfl) ?_
      refine lv_iload hx hb dX3_isSafe_22 (lv_at hl 0 rfl) ?_
      refine lv_iload_n hx hb dX3_isSafe_24 rfl (lv_at hl 2 rfl) ?_
      refine lv_iload_n hx hb dX3_isSafe_25 rfl (lv_at hl 3 rfl) ?_
      refine lv_iload_n hx hb dX3_isSafe_26 rfl (lv_at hl 4 rfl) ?_
      have hPc := hP.sub (ws' := [(mm, .inr (3, [.int th, .int (nI d), .int (nI r), .int ld, .int pl, .ref ao, .ref al, .int li, .int tl, .int mo, .ref aw, .ref aq, .int mn])), (ao, .inl (cI, 4, .inl fo)), (al, .inl (cI, 31, .inl fl))]) [0, 1, 2] rfl
      have hDc := hD0.sub (ws' := [(mm, .inr (3, [.int th, .int (nI d), .int (nI r), .int ld, .int pl, .ref ao, .ref al, .int li, .int tl, .int mo, .ref aw, .ref aq, .int mn])), (ao, .inl (cI, 4, .inl fo)), (al, .inl (cI, 31, .inl fl))]) [0, 1, 2] (by decide) rfl
      have hKc := hK.sub (tys' := [(cI, .int)]) [0] rfl
      refine c_callR (va_runV (As := [.int (nI 1), .int tons, .int (nI d2), .int (nI r2)]) (rest := []) ⟨hx, hb, hml, hown, hts⟩ (q_strain l D L0 cI mm ao al aw aq d r th ld pl li tl mo mn fo fl 1 d2 r2 tons (by decide) hd) (cwV 4 hts gX3_isSafe_X3_strain rfl rfl rfl (by decide +kernel) ⟨Nat.le_of_ble_eq_true rfl, Nat.le_of_ble_eq_true rfl⟩) ⟨cP_blind, va_recv hKc hPc (ci := 3) (q0 := 0) rfl rfl, cP_of hPc hKc hDc (kE_at hE0 hAL hS)⟩ rfl rfl hl.1 rfl (lv_room (Nat.le_of_ble_eq_true rfl)) dX3_isSafe_27 ⟨Nat.le_of_ble_eq_true rfl, Nat.le_of_ble_eq_true rfl⟩) ?_
      show W _ _ _ _ _ _ _ _ _ _ _ _ _ _ _ (F0 m 30 ls [.int (strS fo pl 1 tons d2 r2)])
      refine lv_if_le (tgt := 35) hx hb dX3_isSafe_30 (by decide) (fun c_8 => ?_) (fun c_8 => ?_)
      · refine lv_iinc (v := 2) (lv' := [(4, .int 2), (0, .ref mm), (1, .int tons), (2, .int (nI d2)), (3, .int (nI r2))]) hx hb dX3_isSafe_35 hl (k := 0) rfl (by decide) (by decide) rfl (fun ls hl => ?_)
        refine lv_goto (tgt := 15) hx hb dX3_isSafe_38 (by decide) ?_
        refine lv_iload hx hb dX3_isSafe_15 (lv_at hl 0 rfl) ?_
        refine lv_iconst (v := 4) hx hb dX3_isSafe_17 (by decide) ?_
        refine lv_icmp_ge (tgt := 41) hx hb dX3_isSafe_18 (by decide) (fun c_9 => absurd c_9 (by decide)) (fun _ => ?_)
        refine lv_aload_n hx hb dX3_isSafe_21 rfl (lv_at hl 1 rfl) ?_
        refine lv_iload hx hb dX3_isSafe_22 (lv_at hl 0 rfl) ?_
        refine lv_iload_n hx hb dX3_isSafe_24 rfl (lv_at hl 2 rfl) ?_
        refine lv_iload_n hx hb dX3_isSafe_25 rfl (lv_at hl 3 rfl) ?_
        refine lv_iload_n hx hb dX3_isSafe_26 rfl (lv_at hl 4 rfl) ?_
        have hPc := hP.sub (ws' := [(mm, .inr (3, [.int th, .int (nI d), .int (nI r), .int ld, .int pl, .ref ao, .ref al, .int li, .int tl, .int mo, .ref aw, .ref aq, .int mn])), (ao, .inl (cI, 4, .inl fo)), (al, .inl (cI, 31, .inl fl))]) [0, 1, 2] rfl
        have hDc := hD0.sub (ws' := [(mm, .inr (3, [.int th, .int (nI d), .int (nI r), .int ld, .int pl, .ref ao, .ref al, .int li, .int tl, .int mo, .ref aw, .ref aq, .int mn])), (ao, .inl (cI, 4, .inl fo)), (al, .inl (cI, 31, .inl fl))]) [0, 1, 2] (by decide) rfl
        have hKc := hK.sub (tys' := [(cI, .int)]) [0] rfl
        refine c_callR (va_runV (As := [.int (nI 2), .int tons, .int (nI d2), .int (nI r2)]) (rest := []) ⟨hx, hb, hml, hown, hts⟩ (q_strain l D L0 cI mm ao al aw aq d r th ld pl li tl mo mn fo fl 2 d2 r2 tons (by decide) hd) (cwV 4 hts gX3_isSafe_X3_strain rfl rfl rfl (by decide +kernel) ⟨Nat.le_of_ble_eq_true rfl, Nat.le_of_ble_eq_true rfl⟩) ⟨cP_blind, va_recv hKc hPc (ci := 3) (q0 := 0) rfl rfl, cP_of hPc hKc hDc (kE_at hE0 hAL hS)⟩ rfl rfl hl.1 rfl (lv_room (Nat.le_of_ble_eq_true rfl)) dX3_isSafe_27 ⟨Nat.le_of_ble_eq_true rfl, Nat.le_of_ble_eq_true rfl⟩) ?_
        show W _ _ _ _ _ _ _ _ _ _ _ _ _ _ _ (F0 m 30 ls [.int (strS fo pl 2 tons d2 r2)])
        refine lv_if_le (tgt := 35) hx hb dX3_isSafe_30 (by decide) (fun c_10 => ?_) (fun c_10 => ?_)
        · refine lv_iinc (v := 3) (lv' := [(4, .int 3), (0, .ref mm), (1, .int tons), (2, .int (nI d2)), (3, .int (nI r2))]) hx hb dX3_isSafe_35 hl (k := 0) rfl (by decide) (by decide) rfl (fun ls hl => ?_)
          refine lv_goto (tgt := 15) hx hb dX3_isSafe_38 (by decide) ?_
          refine lv_iload hx hb dX3_isSafe_15 (lv_at hl 0 rfl) ?_
          refine lv_iconst (v := 4) hx hb dX3_isSafe_17 (by decide) ?_
          refine lv_icmp_ge (tgt := 41) hx hb dX3_isSafe_18 (by decide) (fun c_11 => absurd c_11 (by decide)) (fun _ => ?_)
          refine lv_aload_n hx hb dX3_isSafe_21 rfl (lv_at hl 1 rfl) ?_
          refine lv_iload hx hb dX3_isSafe_22 (lv_at hl 0 rfl) ?_
          refine lv_iload_n hx hb dX3_isSafe_24 rfl (lv_at hl 2 rfl) ?_
          refine lv_iload_n hx hb dX3_isSafe_25 rfl (lv_at hl 3 rfl) ?_
          refine lv_iload_n hx hb dX3_isSafe_26 rfl (lv_at hl 4 rfl) ?_
          have hPc := hP.sub (ws' := [(mm, .inr (3, [.int th, .int (nI d), .int (nI r), .int ld, .int pl, .ref ao, .ref al, .int li, .int tl, .int mo, .ref aw, .ref aq, .int mn])), (ao, .inl (cI, 4, .inl fo)), (al, .inl (cI, 31, .inl fl))]) [0, 1, 2] rfl
          have hDc := hD0.sub (ws' := [(mm, .inr (3, [.int th, .int (nI d), .int (nI r), .int ld, .int pl, .ref ao, .ref al, .int li, .int tl, .int mo, .ref aw, .ref aq, .int mn])), (ao, .inl (cI, 4, .inl fo)), (al, .inl (cI, 31, .inl fl))]) [0, 1, 2] (by decide) rfl
          have hKc := hK.sub (tys' := [(cI, .int)]) [0] rfl
          refine c_callR (va_runV (As := [.int (nI 3), .int tons, .int (nI d2), .int (nI r2)]) (rest := []) ⟨hx, hb, hml, hown, hts⟩ (q_strain l D L0 cI mm ao al aw aq d r th ld pl li tl mo mn fo fl 3 d2 r2 tons (by decide) hd) (cwV 4 hts gX3_isSafe_X3_strain rfl rfl rfl (by decide +kernel) ⟨Nat.le_of_ble_eq_true rfl, Nat.le_of_ble_eq_true rfl⟩) ⟨cP_blind, va_recv hKc hPc (ci := 3) (q0 := 0) rfl rfl, cP_of hPc hKc hDc (kE_at hE0 hAL hS)⟩ rfl rfl hl.1 rfl (lv_room (Nat.le_of_ble_eq_true rfl)) dX3_isSafe_27 ⟨Nat.le_of_ble_eq_true rfl, Nat.le_of_ble_eq_true rfl⟩) ?_
          show W _ _ _ _ _ _ _ _ _ _ _ _ _ _ _ (F0 m 30 ls [.int (strS fo pl 3 tons d2 r2)])
          refine lv_if_le (tgt := 35) hx hb dX3_isSafe_30 (by decide) (fun c_12 => ?_) (fun c_12 => ?_)
          · refine lv_iinc (v := 4) (lv' := [(4, .int 4), (0, .ref mm), (1, .int tons), (2, .int (nI d2)), (3, .int (nI r2))]) hx hb dX3_isSafe_35 hl (k := 0) rfl (by decide) (by decide) rfl (fun ls hl => ?_)
            refine lv_goto (tgt := 15) hx hb dX3_isSafe_38 (by decide) ?_
            refine lv_iload hx hb dX3_isSafe_15 (lv_at hl 0 rfl) ?_
            refine lv_iconst (v := 4) hx hb dX3_isSafe_17 (by decide) ?_
            refine lv_icmp_ge (tgt := 41) hx hb dX3_isSafe_18 (by decide) (fun _ => ?_) (fun c_13 => absurd (by decide) c_13)
            refine lv_iconst (v := 1) hx hb dX3_isSafe_41 (by decide) ?_
            exact W.zret (v := 1) hx hb hRt (rfl) (fun t ht hW => ⟨by rw [safS_yes c_4 c_6 c_8 c_10 c_12], ht⟩) hS.2.2 dX3_isSafe_42
          · refine lv_iconst (v := 0) hx hb dX3_isSafe_33 (by decide) ?_
            exact W.zret (v := 0) hx hb hRt (rfl) (fun t ht hW => ⟨by rw [safS_n3 c_12], ht⟩) hS.2.2 dX3_isSafe_34
        · refine lv_iconst (v := 0) hx hb dX3_isSafe_33 (by decide) ?_
          exact W.zret (v := 0) hx hb hRt (rfl) (fun t ht hW => ⟨by rw [safS_n2 c_10], ht⟩) hS.2.2 dX3_isSafe_34
      · refine lv_iconst (v := 0) hx hb dX3_isSafe_33 (by decide) ?_
        exact W.zret (v := 0) hx hb hRt (rfl) (fun t ht hW => ⟨by rw [safS_n1 c_8], ht⟩) hS.2.2 dX3_isSafe_34
    · refine lv_iconst (v := 0) hx hb dX3_isSafe_33 (by decide) ?_
      exact W.zret (v := 0) hx hb hRt (rfl) (fun t ht hW => ⟨by rw [safS_n0 c_6], ht⟩) hS.2.2 dX3_isSafe_34
  · refine lv_iconst (v := 0) hx hb dX3_isSafe_10 (by decide) ?_
    exact W.zret (v := 0) hx hb hRt (rfl) (fun t ht hW => ⟨by rw [safS_no c_4], ht⟩) hS.2.2 dX3_isSafe_11
set_option maxHeartbeats 4000000 in
set_option maxRecDepth 100000 in
/-- isSafe() -/
theorem q_isSafe0 (l : Launch) (D : va_G) (L0 : Nat) (cI : ClassId) (mm ao al aw aq d r : Nat) (th ld pl li tl mo mn : Int32) (fo fl : Nat → Int32) (hd : d < 8) (hr : 3 ≤ r ∧ r ≤ 30) : Met l yX3_isSafe_ wsX3_isSafe_ ({ frames := 3, cells := 0, slots := 0, locals := 81 }) (cP L0 D [(cI, .int)] [(mm, .inr (3, [.int th, .int (nI d), .int (nI r), .int ld, .int pl, .ref ao, .ref al, .int li, .int tl, .int mo, .ref aw, .ref aq, .int mn])), (ao, .inl (cI, 4, .inl fo)), (al, .inl (cI, 31, .inl fl))] [.ref mm]) (cR (some (.int (bI (safS fo fl pl ld d r))))) 0 0 (fun _ => False) := by
  refine Met.ofW (cc := cX3_isSafe_) (maxL := 1) (ret := (some .boolean)) (by decide) rfl ?_
  intro p e s m args below meth c s₁ B hml hv
  obtain ⟨rfl, hP, hK, hD0, hE0⟩ := hv
  have hx := B.exec
  have hb := B.bytes
  have hRt := B.returns
  have hts := atoms_spec (ws := wsX3_isSafe_) B.pre
  have hown : s.vm.findClass RX3 = some m.cls := findClass_of_methodNamed B.named
  have hlocks := B.notSynchronized
  have hAL : ∀ z9 : Nat, (fun _ : Nat => False) z9 → L0 ≤ z9 := fun z9 h9 => False.elim h9
  generalize hAe : (fun _ : Nat => False) = A at hAL ⊢
  have hS : va_S A s.heap s.heap [] := va_S.rf
  have hiX3 : ∀ w ∈ u_ws RX3 TX3 13, w ∈ wsX3_isSafe_ := by decide +kernel
  have hl := lv_entry ([.ref mm]) (n := 1) (Nat.le_of_ble_eq_true rfl)
  rw [lg_entry_eq]
  generalize (lg_sl ([.ref mm]) ++ List.replicate (1 - (lg_sl ([.ref mm])).length) Slot.unset).toArray = ls at hl ⊢
  have hl : lv_has ls 1 [(0, .ref mm)] := hl
  refine lv_aload_n hx hb dX3_isSafe__0 rfl (lv_at hl 0 rfl) ?_
  refine lv_aload_n hx hb dX3_isSafe__1 rfl (lv_at hl 0 rfl) ?_
  refine va_get (D := D) (ci := 3) (v := .int ld) (C := RX3) (T := TX3) (N := 13) hx hb hts hiX3 hown hK hP 0 rfl rfl 3 (by decide) (hts (.fieldLink RX3 53 "CraneReachModel" "load" "I") (by decide +kernel)) (fun _ h9 => h9) rfl dX3_isSafe__2 ?_
  refine lv_aload_n hx hb dX3_isSafe__5 rfl (lv_at hl 0 rfl) ?_
  refine va_get (D := D) (ci := 3) (v := .int (nI d)) (C := RX3) (T := TX3) (N := 13) hx hb hts hiX3 hown hK hP 0 rfl rfl 1 (by decide) (hts (.fieldLink RX3 56 "CraneReachModel" "direction" "I") (by decide +kernel)) (fun _ h9 => h9) rfl dX3_isSafe__6 ?_
  refine lv_aload_n hx hb dX3_isSafe__9 rfl (lv_at hl 0 rfl) ?_
  refine va_get (D := D) (ci := 3) (v := .int (nI r)) (C := RX3) (T := TX3) (N := 13) hx hb hts hiX3 hown hK hP 0 rfl rfl 2 (by decide) (hts (.fieldLink RX3 9 "CraneReachModel" "reach" "I") (by decide +kernel)) (fun _ h9 => h9) rfl dX3_isSafe__10 ?_
  have hPc := hP.sub (ws' := [(mm, .inr (3, [.int th, .int (nI d), .int (nI r), .int ld, .int pl, .ref ao, .ref al, .int li, .int tl, .int mo, .ref aw, .ref aq, .int mn])), (ao, .inl (cI, 4, .inl fo)), (al, .inl (cI, 31, .inl fl))]) [0, 1, 2] rfl
  have hDc := hD0.sub (ws' := [(mm, .inr (3, [.int th, .int (nI d), .int (nI r), .int ld, .int pl, .ref ao, .ref al, .int li, .int tl, .int mo, .ref aw, .ref aq, .int mn])), (ao, .inl (cI, 4, .inl fo)), (al, .inl (cI, 31, .inl fl))]) [0, 1, 2] (by decide) rfl
  have hKc := hK.sub (tys' := [(cI, .int)]) [0] rfl
  refine c_callR (va_runV (As := [.int ld, .int (nI d), .int (nI r)]) (rest := []) ⟨hx, hb, hml, hown, hts⟩ (q_isSafe l D L0 cI mm ao al aw aq d r th ld pl li tl mo mn fo fl d r ld hd hr) (cwV 3 hts gX3_isSafe__X3_isSafe rfl rfl rfl (by decide +kernel) ⟨Nat.le_of_ble_eq_true rfl, Nat.le_of_ble_eq_true rfl⟩) ⟨cP_blind, va_recv hKc hPc (ci := 3) (q0 := 0) rfl rfl, cP_of hPc hKc hDc (kE_at hE0 hAL hS)⟩ rfl rfl hl.1 rfl (lv_room (Nat.le_of_ble_eq_true rfl)) dX3_isSafe__13 ⟨Nat.le_of_ble_eq_true rfl, Nat.le_of_ble_eq_true rfl⟩) ?_
  show W _ _ _ _ _ _ _ _ _ _ _ _ _ _ _ (F0 m 16 ls [.int (bI (safS fo fl pl ld d r))])
  exact W.zret (v := (bI (safS fo fl pl ld d r))) hx hb hRt (bI_nar _) (fun t ht hW => ⟨rfl, ht⟩) hS.2.2 dX3_isSafe__16
set_option maxHeartbeats 4000000 in
set_option maxRecDepth 100000 in
/-- strainNow(side) -/
theorem q_strainNow (l : Launch) (D : va_G) (L0 : Nat) (cI : ClassId) (mm ao al aw aq d r : Nat) (th ld pl li tl mo mn : Int32) (fo fl : Nat → Int32) (k : Nat) (hk : k < 4) (hd : d < 8) : Met l yX3_strainNow wsX3_strainNow ({ frames := 2, cells := 0, slots := 0, locals := 57 }) (cP L0 D [(cI, .int)] [(mm, .inr (3, [.int th, .int (nI d), .int (nI r), .int ld, .int pl, .ref ao, .ref al, .int li, .int tl, .int mo, .ref aw, .ref aq, .int mn])), (ao, .inl (cI, 4, .inl fo)), (al, .inl (cI, 31, .inl fl))] [.ref mm, .int (nI k)]) (cR (some (.int (strS fo pl k ld d r)))) 0 0 (fun _ => False) := by
  refine Met.ofW (cc := cX3_strainNow) (maxL := 2) (ret := (some .int)) (by decide) rfl ?_
  intro p e s m args below meth c s₁ B hml hv
  obtain ⟨rfl, hP, hK, hD0, hE0⟩ := hv
  have hx := B.exec
  have hb := B.bytes
  have hRt := B.returns
  have hts := atoms_spec (ws := wsX3_strainNow) B.pre
  have hown : s.vm.findClass RX3 = some m.cls := findClass_of_methodNamed B.named
  have hlocks := B.notSynchronized
  have hAL : ∀ z9 : Nat, (fun _ : Nat => False) z9 → L0 ≤ z9 := fun z9 h9 => False.elim h9
  generalize hAe : (fun _ : Nat => False) = A at hAL ⊢
  have hS : va_S A s.heap s.heap [] := va_S.rf
  have hiX3 : ∀ w ∈ u_ws RX3 TX3 13, w ∈ wsX3_strainNow := by decide +kernel
  have hl := lv_entry ([.ref mm, .int (nI k)]) (n := 2) (Nat.le_of_ble_eq_true rfl)
  rw [lg_entry_eq]
  generalize (lg_sl ([.ref mm, .int (nI k)]) ++ List.replicate (2 - (lg_sl ([.ref mm, .int (nI k)])).length) Slot.unset).toArray = ls at hl ⊢
  have hl : lv_has ls 2 [(0, .ref mm), (1, .int (nI k))] := hl
  refine lv_aload_n hx hb dX3_strainNow_0 rfl (lv_at hl 0 rfl) ?_
  refine lv_iload_n hx hb dX3_strainNow_1 rfl (lv_at hl 1 rfl) ?_
  refine lv_aload_n hx hb dX3_strainNow_2 rfl (lv_at hl 0 rfl) ?_
  refine va_get (D := D) (ci := 3) (v := .int ld) (C := RX3) (T := TX3) (N := 13) hx hb hts hiX3 hown hK hP 0 rfl rfl 3 (by decide) (hts (.fieldLink RX3 53 "CraneReachModel" "load" "I") (by decide +kernel)) (fun _ h9 => h9) rfl dX3_strainNow_3 ?_
  refine lv_aload_n hx hb dX3_strainNow_6 rfl (lv_at hl 0 rfl) ?_
  refine va_get (D := D) (ci := 3) (v := .int (nI d)) (C := RX3) (T := TX3) (N := 13) hx hb hts hiX3 hown hK hP 0 rfl rfl 1 (by decide) (hts (.fieldLink RX3 56 "CraneReachModel" "direction" "I") (by decide +kernel)) (fun _ h9 => h9) rfl dX3_strainNow_7 ?_
  refine lv_aload_n hx hb dX3_strainNow_10 rfl (lv_at hl 0 rfl) ?_
  refine va_get (D := D) (ci := 3) (v := .int (nI r)) (C := RX3) (T := TX3) (N := 13) hx hb hts hiX3 hown hK hP 0 rfl rfl 2 (by decide) (hts (.fieldLink RX3 9 "CraneReachModel" "reach" "I") (by decide +kernel)) (fun _ h9 => h9) rfl dX3_strainNow_11 ?_
  have hPc := hP.sub (ws' := [(mm, .inr (3, [.int th, .int (nI d), .int (nI r), .int ld, .int pl, .ref ao, .ref al, .int li, .int tl, .int mo, .ref aw, .ref aq, .int mn])), (ao, .inl (cI, 4, .inl fo)), (al, .inl (cI, 31, .inl fl))]) [0, 1, 2] rfl
  have hDc := hD0.sub (ws' := [(mm, .inr (3, [.int th, .int (nI d), .int (nI r), .int ld, .int pl, .ref ao, .ref al, .int li, .int tl, .int mo, .ref aw, .ref aq, .int mn])), (ao, .inl (cI, 4, .inl fo)), (al, .inl (cI, 31, .inl fl))]) [0, 1, 2] (by decide) rfl
  have hKc := hK.sub (tys' := [(cI, .int)]) [0] rfl
  refine c_callR (va_runV (As := [.int (nI k), .int ld, .int (nI d), .int (nI r)]) (rest := []) ⟨hx, hb, hml, hown, hts⟩ (q_strain l D L0 cI mm ao al aw aq d r th ld pl li tl mo mn fo fl k d r ld hk hd) (cwV 4 hts gX3_strainNow_X3_strain rfl rfl rfl (by decide +kernel) ⟨Nat.le_of_ble_eq_true rfl, Nat.le_of_ble_eq_true rfl⟩) ⟨cP_blind, va_recv hKc hPc (ci := 3) (q0 := 0) rfl rfl, cP_of hPc hKc hDc (kE_at hE0 hAL hS)⟩ rfl rfl hl.1 rfl (lv_room (Nat.le_of_ble_eq_true rfl)) dX3_strainNow_14 ⟨Nat.le_of_ble_eq_true rfl, Nat.le_of_ble_eq_true rfl⟩) ?_
  show W _ _ _ _ _ _ _ _ _ _ _ _ _ _ _ (F0 m 17 ls [.int (strS fo pl k ld d r)])
  exact W.iret (v := (strS fo pl k ld d r)) hx hb hRt (fun t ht hW => ⟨rfl, ht⟩) hS.2.2 dX3_strainNow_17
set_option maxHeartbeats 4000000 in
set_option maxRecDepth 100000 in
/-- weakest() -/
theorem q_weakest (l : Launch) (D : va_G) (L0 : Nat) (cI : ClassId) (mm ao al aw aq d r : Nat) (th ld pl li tl mo mn : Int32) (fo fl : Nat → Int32) (hd : d < 8) : Met l yX3_weakest wsX3_weakest ({ frames := 3, cells := 0, slots := 0, locals := 78 }) (cP L0 D [(cI, .int)] [(mm, .inr (3, [.int th, .int (nI d), .int (nI r), .int ld, .int pl, .ref ao, .ref al, .int li, .int tl, .int mo, .ref aw, .ref aq, .int mn])), (ao, .inl (cI, 4, .inl fo)), (al, .inl (cI, 31, .inl fl))] [.ref mm]) (cR (some (.int (nI (wkN (fun k => strS fo pl k ld d r) 4))))) 0 0 (fun _ => False) := by
  refine Met.ofW (cc := cX3_weakest) (maxL := 3) (ret := (some .int)) (by decide) rfl ?_
  intro p e s m args below meth c s₁ B hml hv
  obtain ⟨rfl, hP, hK, hD0, hE0⟩ := hv
  have hx := B.exec
  have hb := B.bytes
  have hRt := B.returns
  have hts := atoms_spec (ws := wsX3_weakest) B.pre
  have hown : s.vm.findClass RX3 = some m.cls := findClass_of_methodNamed B.named
  have hlocks := B.notSynchronized
  have hAL : ∀ z9 : Nat, (fun _ : Nat => False) z9 → L0 ≤ z9 := fun z9 h9 => False.elim h9
  generalize hAe : (fun _ : Nat => False) = A at hAL ⊢
  have hS : va_S A s.heap s.heap [] := va_S.rf
  have hiX3 : ∀ w ∈ u_ws RX3 TX3 13, w ∈ wsX3_weakest := by decide +kernel
  have hl := lv_entry ([.ref mm]) (n := 3) (Nat.le_of_ble_eq_true rfl)
  rw [lg_entry_eq]
  generalize (lg_sl ([.ref mm]) ++ List.replicate (3 - (lg_sl ([.ref mm])).length) Slot.unset).toArray = ls at hl ⊢
  have hl : lv_has ls 3 [(0, .ref mm)] := hl
  have loop : ∀ (n : Nat) (k : Nat) (ls : Array Slot), k + n = 5 → 1 ≤ k ∧ k ≤ 4 → lv_has ls 3 [(2, .int (nI k)), (1, .int (nI (wkN (fun k => strS fo pl k ld d r) k))), (0, .ref mm)] → W p l e (headSpec wsX3_weakest ({ frames := 3, cells := 0, slots := 0, locals := 78 })).room s m ([.ref mm]).toArray below meth c s.heap [] 0 0 (MQ below (cR (some (.int (nI (wkN (fun k => strS fo pl k ld d r) 4))))) ([.ref mm]).toArray s 0 0 A) (F0 m 4 ls []) := by
    intro n
    induction n with
    | zero =>
      intro k ls hn hk hl
      exact absurd hn (by omega)
    | succ n ih =>
      intro k ls hn hk hl
      refine lv_iload_n hx hb dX3_weakest_4 rfl (lv_at hl 0 rfl) ?_
      refine lv_iconst (v := 4) hx hb dX3_weakest_5 (by decide) ?_
      refine lv_icmp_ge (tgt := 30) hx hb dX3_weakest_6 (by decide) (fun c_14 => ?_) (fun c_14 => ?_)
      · have hk4 : k = 4 := by
          rcases Nat.lt_or_ge k 4 with z | z
          · exact absurd c_14 (nI_ge (b := 4) z (by decide))
          · omega
        refine lv_iload_n hx hb dX3_weakest_30 rfl (lv_at hl 1 rfl) ?_
        exact W.iret (v := (nI (wkN (fun k => strS fo pl k ld d r) k))) hx hb hRt (fun t ht hW => ⟨by rw [hk4], ht⟩) hS.2.2 dX3_weakest_31
      · have hk4 : k < 4 := by
          rcases Nat.lt_or_ge k 4 with z | z
          · exact z
          · exact absurd (nI_le (a := 4) z (by omega)) c_14
        refine lv_aload_n hx hb dX3_weakest_9 rfl (lv_at hl 2 rfl) ?_
        refine lv_iload_n hx hb dX3_weakest_10 rfl (lv_at hl 0 rfl) ?_
        have hPc := hP.sub (ws' := [(mm, .inr (3, [.int th, .int (nI d), .int (nI r), .int ld, .int pl, .ref ao, .ref al, .int li, .int tl, .int mo, .ref aw, .ref aq, .int mn])), (ao, .inl (cI, 4, .inl fo)), (al, .inl (cI, 31, .inl fl))]) [0, 1, 2] rfl
        have hDc := hD0.sub (ws' := [(mm, .inr (3, [.int th, .int (nI d), .int (nI r), .int ld, .int pl, .ref ao, .ref al, .int li, .int tl, .int mo, .ref aw, .ref aq, .int mn])), (ao, .inl (cI, 4, .inl fo)), (al, .inl (cI, 31, .inl fl))]) [0, 1, 2] (by decide) rfl
        have hKc := hK.sub (tys' := [(cI, .int)]) [0] rfl
        refine c_callR (va_runV (As := [.int (nI k)]) (rest := []) ⟨hx, hb, hml, hown, hts⟩ (q_strainNow l D L0 cI mm ao al aw aq d r th ld pl li tl mo mn fo fl k hk4 hd) (cwV 1 hts gX3_weakest_X3_strainNow rfl rfl rfl (by decide +kernel) ⟨Nat.le_of_ble_eq_true rfl, Nat.le_of_ble_eq_true rfl⟩) ⟨cP_blind, va_recv hKc hPc (ci := 3) (q0 := 0) rfl rfl, cP_of hPc hKc hDc (kE_at hE0 hAL hS)⟩ rfl rfl hl.1 rfl (lv_room (Nat.le_of_ble_eq_true rfl)) dX3_weakest_11 ⟨Nat.le_of_ble_eq_true rfl, Nat.le_of_ble_eq_true rfl⟩) ?_
        show W _ _ _ _ _ _ _ _ _ _ _ _ _ _ _ (F0 m 14 ls [.int (strS fo pl k ld d r)])
        refine lv_aload_n hx hb dX3_weakest_14 rfl (lv_at hl 2 rfl) ?_
        refine lv_iload_n hx hb dX3_weakest_15 rfl (lv_at hl 1 rfl) ?_
        have hPc := hP.sub (ws' := [(mm, .inr (3, [.int th, .int (nI d), .int (nI r), .int ld, .int pl, .ref ao, .ref al, .int li, .int tl, .int mo, .ref aw, .ref aq, .int mn])), (ao, .inl (cI, 4, .inl fo)), (al, .inl (cI, 31, .inl fl))]) [0, 1, 2] rfl
        have hDc := hD0.sub (ws' := [(mm, .inr (3, [.int th, .int (nI d), .int (nI r), .int ld, .int pl, .ref ao, .ref al, .int li, .int tl, .int mo, .ref aw, .ref aq, .int mn])), (ao, .inl (cI, 4, .inl fo)), (al, .inl (cI, 31, .inl fl))]) [0, 1, 2] (by decide) rfl
        have hKc := hK.sub (tys' := [(cI, .int)]) [0] rfl
        refine c_callR (va_runV (As := [.int (nI (wkN (fun k => strS fo pl k ld d r) k))]) (rest := [.int (strS fo pl k ld d r)]) ⟨hx, hb, hml, hown, hts⟩ (q_strainNow l D L0 cI mm ao al aw aq d r th ld pl li tl mo mn fo fl (wkN (fun k => strS fo pl k ld d r) k) (wkN_lt (by omega) (by decide)) hd) (cwV 1 hts gX3_weakest_X3_strainNow rfl rfl rfl (by decide +kernel) ⟨Nat.le_of_ble_eq_true rfl, Nat.le_of_ble_eq_true rfl⟩) ⟨cP_blind, va_recv hKc hPc (ci := 3) (q0 := 0) rfl rfl, cP_of hPc hKc hDc (kE_at hE0 hAL hS)⟩ rfl rfl hl.1 rfl (lv_room (Nat.le_of_ble_eq_true rfl)) dX3_weakest_16 ⟨Nat.le_of_ble_eq_true rfl, Nat.le_of_ble_eq_true rfl⟩) ?_
        show W _ _ _ _ _ _ _ _ _ _ _ _ _ _ _ (F0 m 19 ls [.int (strS fo pl (wkN (fun k => strS fo pl k ld d r) k) ld d r), .int (strS fo pl k ld d r)])
        refine lv_icmp_le (tgt := 24) hx hb dX3_weakest_19 (by decide) (fun c_15 => ?_) (fun c_15 => ?_)
        · have e : wkN (fun k => strS fo pl k ld d r) (k + 1) = wkN (fun k => strS fo pl k ld d r) k := by rw [wkN, if_neg (by omega), if_neg (i_len c_15)]
          refine lv_iinc (v := (nI k) + 1) (lv' := [(2, .int ((nI k) + 1)), (1, .int (nI (wkN (fun k => strS fo pl k ld d r) k))), (0, .ref mm)]) hx hb dX3_weakest_24 hl (k := 0) rfl rfl (by decide) rfl (fun ls hl => ?_)
          refine lv_goto (tgt := 4) hx hb dX3_weakest_27 (by decide) ?_
          have hl : lv_has ls 3 [(2, .int (nI (k + 1))), (1, .int (nI (wkN (fun k => strS fo pl k ld d r) k))), (0, .ref mm)] := (show (nI k) + 1 = nI (k + 1) from nI_1 k) ▸ hl
          have hl : lv_has ls 3 [(2, .int (nI (k + 1))), (1, .int (nI (wkN (fun k => strS fo pl k ld d r) (k + 1)))), (0, .ref mm)] := (show nI (wkN (fun k => strS fo pl k ld d r) k) = nI (wkN (fun k => strS fo pl k ld d r) (k + 1)) from by rw [e]) ▸ hl
          exact ih (k + 1) _ (by omega) (by omega) (lv_sub hl [0, 1, 2] rfl)
        · have e : wkN (fun k => strS fo pl k ld d r) (k + 1) = k := by rw [wkN, if_neg (by omega), if_pos (i_nle c_15)]
          refine lv_iload_n hx hb dX3_weakest_22 rfl (lv_at hl 0 rfl) ?_
          refine lv_istore_n (lv' := [(1, .int (nI k)), (2, .int (nI k)), (0, .ref mm)]) hx hb dX3_weakest_23 rfl hl (by decide) rfl (fun ls hl => ?_)
          refine lv_iinc (v := (nI k) + 1) (lv' := [(2, .int ((nI k) + 1)), (1, .int (nI k)), (0, .ref mm)]) hx hb dX3_weakest_24 hl (k := 1) rfl rfl (by decide) rfl (fun ls hl => ?_)
          refine lv_goto (tgt := 4) hx hb dX3_weakest_27 (by decide) ?_
          have hl : lv_has ls 3 [(2, .int (nI (k + 1))), (1, .int (nI k)), (0, .ref mm)] := (show (nI k) + 1 = nI (k + 1) from nI_1 k) ▸ hl
          have hl : lv_has ls 3 [(2, .int (nI (k + 1))), (1, .int (nI (wkN (fun k => strS fo pl k ld d r) (k + 1)))), (0, .ref mm)] := (show nI k = nI (wkN (fun k => strS fo pl k ld d r) (k + 1)) from by rw [e]) ▸ hl
          exact ih (k + 1) _ (by omega) (by omega) (lv_sub hl [0, 1, 2] rfl)
  refine lv_iconst (v := 0) hx hb dX3_weakest_0 (by decide) ?_
  refine lv_istore_n (lv' := [(1, .int 0), (0, .ref mm)]) hx hb dX3_weakest_1 rfl hl (by decide) rfl (fun ls hl => ?_)
  refine lv_iconst (v := 1) hx hb dX3_weakest_2 (by decide) ?_
  refine lv_istore_n (lv' := [(2, .int 1), (1, .int 0), (0, .ref mm)]) hx hb dX3_weakest_3 rfl hl (by decide) rfl (fun ls hl => ?_)
  have hl : lv_has ls 3 [(2, .int (nI 1)), (1, .int 0), (0, .ref mm)] := (show 1 = nI 1 from rfl) ▸ hl
  have hl : lv_has ls 3 [(2, .int (nI 1)), (1, .int (nI (wkN (fun k => strS fo pl k ld d r) 1))), (0, .ref mm)] := (show 0 = nI (wkN (fun k => strS fo pl k ld d r) 1) from rfl) ▸ hl
  exact loop 4 1 _ (by omega) (by omega) (lv_sub hl [0, 1, 2] rfl)
set_option maxHeartbeats 4000000 in
set_option maxRecDepth 100000 in
/-- greatest() -/
theorem q_greatest (l : Launch) (D : va_G) (L0 : Nat) (cI : ClassId) (mm ao al aw aq d r : Nat) (th ld pl li tl mo mn : Int32) (fo fl : Nat → Int32) (hd : d < 8) (hr : 3 ≤ r ∧ r ≤ 30) (hex : ∃ k, k ≤ 60 ∧ safS fo fl pl (nI k) d r = true) : Met l yX3_greatest wsX3_greatest ({ frames := 3, cells := 0, slots := 0, locals := 81 }) (cP L0 D [(cI, .int)] [(mm, .inr (3, [.int th, .int (nI d), .int (nI r), .int ld, .int pl, .ref ao, .ref al, .int li, .int tl, .int mo, .ref aw, .ref aq, .int mn])), (ao, .inl (cI, 4, .inl fo)), (al, .inl (cI, 31, .inl fl))] [.ref mm]) (cR (some (.int (nI (grN (fun k => safS fo fl pl (nI k) d r) 60))))) 0 0 (fun _ => False) := by
  refine Met.ofW (cc := cX3_greatest) (maxL := 2) (ret := (some .int)) (by decide) rfl ?_
  intro p e s m args below meth c s₁ B hml hv
  obtain ⟨rfl, hP, hK, hD0, hE0⟩ := hv
  have hx := B.exec
  have hb := B.bytes
  have hRt := B.returns
  have hts := atoms_spec (ws := wsX3_greatest) B.pre
  have hown : s.vm.findClass RX3 = some m.cls := findClass_of_methodNamed B.named
  have hlocks := B.notSynchronized
  have hAL : ∀ z9 : Nat, (fun _ : Nat => False) z9 → L0 ≤ z9 := fun z9 h9 => False.elim h9
  generalize hAe : (fun _ : Nat => False) = A at hAL ⊢
  have hS : va_S A s.heap s.heap [] := va_S.rf
  have hiX3 : ∀ w ∈ u_ws RX3 TX3 13, w ∈ wsX3_greatest := by decide +kernel
  have hl := lv_entry ([.ref mm]) (n := 2) (Nat.le_of_ble_eq_true rfl)
  rw [lg_entry_eq]
  generalize (lg_sl ([.ref mm]) ++ List.replicate (2 - (lg_sl ([.ref mm])).length) Slot.unset).toArray = ls at hl ⊢
  have hl : lv_has ls 2 [(0, .ref mm)] := hl
  have loop : ∀ (n : Nat)  (ls : Array Slot), n ≤ 60 → grN (fun k => safS fo fl pl (nI k) d r) n = grN (fun k => safS fo fl pl (nI k) d r) 60 → (∃ k, k ≤ n ∧ safS fo fl pl (nI k) d r = true) → lv_has ls 2 [(1, .int (nI n)), (0, .ref mm)] → W p l e (headSpec wsX3_greatest ({ frames := 3, cells := 0, slots := 0, locals := 81 })).room s m ([.ref mm]).toArray below meth c s.heap [] 0 0 (MQ below (cR (some (.int (nI (grN (fun k => safS fo fl pl (nI k) d r) 60))))) ([.ref mm]).toArray s 0 0 A) (F0 m 3 ls []) := by
    intro n
    induction n with
    | zero =>
      intro  ls hn hG hx0 hl
      refine lv_aload_n hx hb dX3_greatest_3 rfl (lv_at hl 1 rfl) ?_
      refine lv_iload_n hx hb dX3_greatest_4 rfl (lv_at hl 0 rfl) ?_
      refine lv_aload_n hx hb dX3_greatest_5 rfl (lv_at hl 1 rfl) ?_
      refine va_get (D := D) (ci := 3) (v := .int (nI d)) (C := RX3) (T := TX3) (N := 13) hx hb hts hiX3 hown hK hP 0 rfl rfl 1 (by decide) (hts (.fieldLink RX3 56 "CraneReachModel" "direction" "I") (by decide +kernel)) (fun _ h9 => h9) rfl dX3_greatest_6 ?_
      refine lv_aload_n hx hb dX3_greatest_9 rfl (lv_at hl 1 rfl) ?_
      refine va_get (D := D) (ci := 3) (v := .int (nI r)) (C := RX3) (T := TX3) (N := 13) hx hb hts hiX3 hown hK hP 0 rfl rfl 2 (by decide) (hts (.fieldLink RX3 9 "CraneReachModel" "reach" "I") (by decide +kernel)) (fun _ h9 => h9) rfl dX3_greatest_10 ?_
      have hPc := hP.sub (ws' := [(mm, .inr (3, [.int th, .int (nI d), .int (nI r), .int ld, .int pl, .ref ao, .ref al, .int li, .int tl, .int mo, .ref aw, .ref aq, .int mn])), (ao, .inl (cI, 4, .inl fo)), (al, .inl (cI, 31, .inl fl))]) [0, 1, 2] rfl
      have hDc := hD0.sub (ws' := [(mm, .inr (3, [.int th, .int (nI d), .int (nI r), .int ld, .int pl, .ref ao, .ref al, .int li, .int tl, .int mo, .ref aw, .ref aq, .int mn])), (ao, .inl (cI, 4, .inl fo)), (al, .inl (cI, 31, .inl fl))]) [0, 1, 2] (by decide) rfl
      have hKc := hK.sub (tys' := [(cI, .int)]) [0] rfl
      refine c_callR (va_runV (As := [.int (nI 0), .int (nI d), .int (nI r)]) (rest := []) ⟨hx, hb, hml, hown, hts⟩ (q_isSafe l D L0 cI mm ao al aw aq d r th ld pl li tl mo mn fo fl d r (nI 0) hd hr) (cwV 3 hts gX3_greatest_X3_isSafe rfl rfl rfl (by decide +kernel) ⟨Nat.le_of_ble_eq_true rfl, Nat.le_of_ble_eq_true rfl⟩) ⟨cP_blind, va_recv hKc hPc (ci := 3) (q0 := 0) rfl rfl, cP_of hPc hKc hDc (kE_at hE0 hAL hS)⟩ rfl rfl hl.1 rfl (lv_room (Nat.le_of_ble_eq_true rfl)) dX3_greatest_13 ⟨Nat.le_of_ble_eq_true rfl, Nat.le_of_ble_eq_true rfl⟩) ?_
      show W _ _ _ _ _ _ _ _ _ _ _ _ _ _ _ (F0 m 16 ls [.int (bI (safS fo fl pl (nI 0) d r))])
      have hs0 : safS fo fl pl (nI 0) d r = true := by
        obtain ⟨k, hk1, hk2⟩ := hx0
        have e0 : k = 0 := by omega
        rw [e0] at hk2; exact hk2
      refine c_top (show (bI (safS fo fl pl (nI 0) d r)) = 1 from by rw [hs0]; rfl) ?_
      refine lv_if_ne (tgt := 25) hx hb dX3_greatest_16 (by decide) (fun _ => ?_) (fun c_16 => absurd c_16 (by decide))
      refine lv_iload_n hx hb dX3_greatest_25 rfl (lv_at hl 0 rfl) ?_
      exact W.iret (v := (nI 0)) hx hb hRt (fun t ht hW => ⟨by rw [← hG]; rfl, ht⟩) hS.2.2 dX3_greatest_26
    | succ n ih =>
      intro  ls hn hG hx0 hl
      refine lv_aload_n hx hb dX3_greatest_3 rfl (lv_at hl 1 rfl) ?_
      refine lv_iload_n hx hb dX3_greatest_4 rfl (lv_at hl 0 rfl) ?_
      refine lv_aload_n hx hb dX3_greatest_5 rfl (lv_at hl 1 rfl) ?_
      refine va_get (D := D) (ci := 3) (v := .int (nI d)) (C := RX3) (T := TX3) (N := 13) hx hb hts hiX3 hown hK hP 0 rfl rfl 1 (by decide) (hts (.fieldLink RX3 56 "CraneReachModel" "direction" "I") (by decide +kernel)) (fun _ h9 => h9) rfl dX3_greatest_6 ?_
      refine lv_aload_n hx hb dX3_greatest_9 rfl (lv_at hl 1 rfl) ?_
      refine va_get (D := D) (ci := 3) (v := .int (nI r)) (C := RX3) (T := TX3) (N := 13) hx hb hts hiX3 hown hK hP 0 rfl rfl 2 (by decide) (hts (.fieldLink RX3 9 "CraneReachModel" "reach" "I") (by decide +kernel)) (fun _ h9 => h9) rfl dX3_greatest_10 ?_
      have hPc := hP.sub (ws' := [(mm, .inr (3, [.int th, .int (nI d), .int (nI r), .int ld, .int pl, .ref ao, .ref al, .int li, .int tl, .int mo, .ref aw, .ref aq, .int mn])), (ao, .inl (cI, 4, .inl fo)), (al, .inl (cI, 31, .inl fl))]) [0, 1, 2] rfl
      have hDc := hD0.sub (ws' := [(mm, .inr (3, [.int th, .int (nI d), .int (nI r), .int ld, .int pl, .ref ao, .ref al, .int li, .int tl, .int mo, .ref aw, .ref aq, .int mn])), (ao, .inl (cI, 4, .inl fo)), (al, .inl (cI, 31, .inl fl))]) [0, 1, 2] (by decide) rfl
      have hKc := hK.sub (tys' := [(cI, .int)]) [0] rfl
      refine c_callR (va_runV (As := [.int (nI (n + 1)), .int (nI d), .int (nI r)]) (rest := []) ⟨hx, hb, hml, hown, hts⟩ (q_isSafe l D L0 cI mm ao al aw aq d r th ld pl li tl mo mn fo fl d r (nI (n + 1)) hd hr) (cwV 3 hts gX3_greatest_X3_isSafe rfl rfl rfl (by decide +kernel) ⟨Nat.le_of_ble_eq_true rfl, Nat.le_of_ble_eq_true rfl⟩) ⟨cP_blind, va_recv hKc hPc (ci := 3) (q0 := 0) rfl rfl, cP_of hPc hKc hDc (kE_at hE0 hAL hS)⟩ rfl rfl hl.1 rfl (lv_room (Nat.le_of_ble_eq_true rfl)) dX3_greatest_13 ⟨Nat.le_of_ble_eq_true rfl, Nat.le_of_ble_eq_true rfl⟩) ?_
      show W _ _ _ _ _ _ _ _ _ _ _ _ _ _ _ (F0 m 16 ls [.int (bI (safS fo fl pl (nI (n + 1)) d r))])
      obtain ⟨b_17, hbv_18⟩ : ∃ z : Bool, z = safS fo fl pl (nI (n + 1)) d r := ⟨_, rfl⟩
      refine c_top (show (bI (safS fo fl pl (nI (n + 1)) d r)) = bI b_17 from by rw [hbv_18]) ?_
      refine lv_if_ne (tgt := 25) hx hb dX3_greatest_16 (by decide) (fun c_19 => ?_) (fun c_19 => ?_)
      · have hs : safS fo fl pl (nI (n + 1)) d r = true := by rw [← hbv_18]; cases b_17 with | true => rfl | false => exact absurd rfl c_19
        refine lv_iload_n hx hb dX3_greatest_25 rfl (lv_at hl 0 rfl) ?_
        exact W.iret (v := (nI (n + 1))) hx hb hRt (fun t ht hW => ⟨by rw [← hG, grN, if_pos hs], ht⟩) hS.2.2 dX3_greatest_26
      · have hs : safS fo fl pl (nI (n + 1)) d r = false := by rw [← hbv_18]; cases b_17 with | false => rfl | true => exact absurd c_19 (by decide)
        refine lv_iinc (v := (nI (n + 1)) + (-1)) (lv' := [(1, .int ((nI (n + 1)) + (-1))), (0, .ref mm)]) hx hb dX3_greatest_19 hl (k := 0) rfl rfl (by decide) rfl (fun ls hl => ?_)
        refine lv_goto (tgt := 3) hx hb dX3_greatest_22 (by decide) ?_
        have hl : lv_has ls 2 [(1, .int (nI n)), (0, .ref mm)] := (show (nI (n + 1)) + (-1) = nI n from pk_m1 n) ▸ hl
        exact ih  _ (by omega) (by rw [← hG, grN, if_neg (by rw [hs]; decide)]) (by
              obtain ⟨k, hk1, hk2⟩ := hx0
              refine ⟨k, ?_, hk2⟩
              rcases Nat.lt_or_ge n k with z | z
              · have e0 : k = n + 1 := by omega
                rw [e0, hs] at hk2; exact absurd hk2 (by decide)
              · exact z) (lv_sub hl [0, 1] rfl)
  refine lv_bipush (v := 60) hx hb dX3_greatest_0 (by decide) ?_
  refine lv_istore_n (lv' := [(1, .int 60), (0, .ref mm)]) hx hb dX3_greatest_2 rfl hl (by decide) rfl (fun ls hl => ?_)
  have hl : lv_has ls 2 [(1, .int (nI 60)), (0, .ref mm)] := (show 60 = nI 60 from rfl) ▸ hl
  exact loop 60  _ (by omega) rfl hex (lv_sub hl [0, 1] rfl)
set_option maxHeartbeats 4000000 in
set_option maxRecDepth 100000 in
/-- safeAround(its, r) -/
theorem q_safeAround (l : Launch) (D : va_G) (L0 : Nat) (cI : ClassId) (mm ao al aw aq d r : Nat) (th ld pl li tl mo mn : Int32) (fo fl : Nat → Int32) (u : Int32) (kz : Nat) (hkz : 3 ≤ kz ∧ kz ≤ 30) : Met l yX3_safeAround wsX3_safeAround ({ frames := 3, cells := 0, slots := 0, locals := 81 }) (cP L0 D [(cI, .int)] [(mm, .inr (3, [.int th, .int (nI d), .int (nI r), .int ld, .int pl, .ref ao, .ref al, .int li, .int tl, .int mo, .ref aw, .ref aq, .int mn])), (ao, .inl (cI, 4, .inl fo)), (al, .inl (cI, 31, .inl fl))] [.ref mm, .int u, .int (nI kz)]) (cR (some (.int (nI (fb_ct (fun k => safS fo fl pl u k kz) 8))))) 0 0 (fun _ => False) := by
  refine Met.ofW (cc := cX3_safeAround) (maxL := 5) (ret := (some .int)) (by decide) rfl ?_
  intro p e s m args below meth c s₁ B hml hv
  obtain ⟨rfl, hP, hK, hD0, hE0⟩ := hv
  have hx := B.exec
  have hb := B.bytes
  have hRt := B.returns
  have hts := atoms_spec (ws := wsX3_safeAround) B.pre
  have hown : s.vm.findClass RX3 = some m.cls := findClass_of_methodNamed B.named
  have hlocks := B.notSynchronized
  have hAL : ∀ z9 : Nat, (fun _ : Nat => False) z9 → L0 ≤ z9 := fun z9 h9 => False.elim h9
  generalize hAe : (fun _ : Nat => False) = A at hAL ⊢
  have hS : va_S A s.heap s.heap [] := va_S.rf
  have hiX3 : ∀ w ∈ u_ws RX3 TX3 13, w ∈ wsX3_safeAround := by decide +kernel
  have hl := lv_entry ([.ref mm, .int u, .int (nI kz)]) (n := 5) (Nat.le_of_ble_eq_true rfl)
  rw [lg_entry_eq]
  generalize (lg_sl ([.ref mm, .int u, .int (nI kz)]) ++ List.replicate (5 - (lg_sl ([.ref mm, .int u, .int (nI kz)])).length) Slot.unset).toArray = ls at hl ⊢
  have hl : lv_has ls 5 [(0, .ref mm), (1, .int u), (2, .int (nI kz))] := hl
  have loop : ∀ (n : Nat) (i : Nat) (ls : Array Slot), i + n = 8 → lv_has ls 5 [(4, .int (nI i)), (3, .int (nI (fb_ct (fun k => safS fo fl pl u k kz) i))), (0, .ref mm), (1, .int u), (2, .int (nI kz))] → W p l e (headSpec wsX3_safeAround ({ frames := 3, cells := 0, slots := 0, locals := 81 })).room s m ([.ref mm, .int u, .int (nI kz)]).toArray below meth c s.heap [] 0 0 (MQ below (cR (some (.int (nI (fb_ct (fun k => safS fo fl pl u k kz) 8))))) ([.ref mm, .int u, .int (nI kz)]).toArray s 0 0 A) (F0 m 5 ls []) := by
    intro n
    induction n with
    | zero =>
      intro i ls hn hl
      have hi : i = 8 := by omega
      rw [hi] at hl
      refine lv_iload hx hb dX3_safeAround_5 (lv_at hl 0 rfl) ?_
      refine lv_bipush (v := 8) hx hb dX3_safeAround_7 (by decide) ?_
      refine lv_icmp_ge (tgt := 37) hx hb dX3_safeAround_9 (by decide) (fun _ => ?_) (fun c_20 => absurd (by decide) c_20)
      refine lv_iload_n hx hb dX3_safeAround_37 rfl (lv_at hl 1 rfl) ?_
      exact W.iret (v := (nI (fb_ct (fun k => safS fo fl pl u k kz) 8))) hx hb hRt (fun t ht hW => ⟨rfl, ht⟩) hS.2.2 dX3_safeAround_38
    | succ n ih =>
      intro i ls hn hl
      refine lv_iload hx hb dX3_safeAround_5 (lv_at hl 0 rfl) ?_
      refine lv_bipush (v := 8) hx hb dX3_safeAround_7 (by decide) ?_
      refine lv_icmp_ge (tgt := 37) hx hb dX3_safeAround_9 (by decide) (fun c_21 => absurd c_21 (nI_ge (b := 8) (by omega) (by decide))) (fun _ => ?_)
      refine lv_iload_n hx hb dX3_safeAround_12 rfl (lv_at hl 1 rfl) ?_
      refine lv_aload_n hx hb dX3_safeAround_13 rfl (lv_at hl 2 rfl) ?_
      refine lv_iload_n hx hb dX3_safeAround_14 rfl (lv_at hl 3 rfl) ?_
      refine lv_iload hx hb dX3_safeAround_15 (lv_at hl 0 rfl) ?_
      refine lv_iload_n hx hb dX3_safeAround_17 rfl (lv_at hl 4 rfl) ?_
      have hPc := hP.sub (ws' := [(mm, .inr (3, [.int th, .int (nI d), .int (nI r), .int ld, .int pl, .ref ao, .ref al, .int li, .int tl, .int mo, .ref aw, .ref aq, .int mn])), (ao, .inl (cI, 4, .inl fo)), (al, .inl (cI, 31, .inl fl))]) [0, 1, 2] rfl
      have hDc := hD0.sub (ws' := [(mm, .inr (3, [.int th, .int (nI d), .int (nI r), .int ld, .int pl, .ref ao, .ref al, .int li, .int tl, .int mo, .ref aw, .ref aq, .int mn])), (ao, .inl (cI, 4, .inl fo)), (al, .inl (cI, 31, .inl fl))]) [0, 1, 2] (by decide) rfl
      have hKc := hK.sub (tys' := [(cI, .int)]) [0] rfl
      refine c_callR (va_runV (As := [.int u, .int (nI i), .int (nI kz)]) (rest := [.int (nI (fb_ct (fun k => safS fo fl pl u k kz) i))]) ⟨hx, hb, hml, hown, hts⟩ (q_isSafe l D L0 cI mm ao al aw aq d r th ld pl li tl mo mn fo fl i kz u (by omega) hkz) (cwV 3 hts gX3_safeAround_X3_isSafe rfl rfl rfl (by decide +kernel) ⟨Nat.le_of_ble_eq_true rfl, Nat.le_of_ble_eq_true rfl⟩) ⟨cP_blind, va_recv hKc hPc (ci := 3) (q0 := 0) rfl rfl, cP_of hPc hKc hDc (kE_at hE0 hAL hS)⟩ rfl rfl hl.1 rfl (lv_room (Nat.le_of_ble_eq_true rfl)) dX3_safeAround_18 ⟨Nat.le_of_ble_eq_true rfl, Nat.le_of_ble_eq_true rfl⟩) ?_
      show W _ _ _ _ _ _ _ _ _ _ _ _ _ _ _ (F0 m 21 ls [.int (bI (safS fo fl pl u i kz)), .int (nI (fb_ct (fun k => safS fo fl pl u k kz) i))])
      obtain ⟨b_22, hbv_23⟩ : ∃ z : Bool, z = safS fo fl pl u i kz := ⟨_, rfl⟩
      refine c_top (show (bI (safS fo fl pl u i kz)) = bI b_22 from by rw [hbv_23]) ?_
      refine lv_if_eq (tgt := 28) hx hb dX3_safeAround_21 (by decide) (fun c_24 => ?_) (fun c_24 => ?_)
      · have hs : safS fo fl pl u i kz = false := by rw [← hbv_23]; cases b_22 with | false => rfl | true => exact absurd c_24 (by decide)
        refine lv_iconst (v := 0) hx hb dX3_safeAround_28 (by decide) ?_
        refine lv_iadd hx hb dX3_safeAround_29 ?_
        refine lv_istore_n (lv' := [(3, .int ((nI (fb_ct (fun k => safS fo fl pl u k kz) i)) + 0)), (4, .int (nI i)), (0, .ref mm), (1, .int u), (2, .int (nI kz))]) hx hb dX3_safeAround_30 rfl hl (by decide) rfl (fun ls hl => ?_)
        refine lv_iinc (v := (nI i) + 1) (lv' := [(4, .int ((nI i) + 1)), (3, .int ((nI (fb_ct (fun k => safS fo fl pl u k kz) i)) + 0)), (0, .ref mm), (1, .int u), (2, .int (nI kz))]) hx hb dX3_safeAround_31 hl (k := 1) rfl rfl (by decide) rfl (fun ls hl => ?_)
        refine lv_goto (tgt := 5) hx hb dX3_safeAround_34 (by decide) ?_
        have hl : lv_has ls 5 [(4, .int (nI (i + 1))), (3, .int ((nI (fb_ct (fun k => safS fo fl pl u k kz) i)) + 0)), (0, .ref mm), (1, .int u), (2, .int (nI kz))] := (show (nI i) + 1 = nI (i + 1) from nI_1 i) ▸ hl
        have hl : lv_has ls 5 [(4, .int (nI (i + 1))), (3, .int (nI (fb_ct (fun k => safS fo fl pl u k kz) (i + 1)))), (0, .ref mm), (1, .int u), (2, .int (nI kz))] := (show (nI (fb_ct (fun k => safS fo fl pl u k kz) i)) + 0 = nI (fb_ct (fun k => safS fo fl pl u k kz) (i + 1)) from by rw [fb_ct_succ, hs]; exact Int32.add_zero _) ▸ hl
        exact ih (i + 1) _ (by omega) (lv_sub hl [0, 1, 2, 3, 4] rfl)
      · have hs : safS fo fl pl u i kz = true := by rw [← hbv_23]; cases b_22 with | true => rfl | false => exact absurd rfl c_24
        refine lv_iconst (v := 1) hx hb dX3_safeAround_24 (by decide) ?_
        refine lv_goto (tgt := 29) hx hb dX3_safeAround_25 (by decide) ?_
        refine lv_iadd hx hb dX3_safeAround_29 ?_
        refine lv_istore_n (lv' := [(3, .int ((nI (fb_ct (fun k => safS fo fl pl u k kz) i)) + 1)), (4, .int (nI i)), (0, .ref mm), (1, .int u), (2, .int (nI kz))]) hx hb dX3_safeAround_30 rfl hl (by decide) rfl (fun ls hl => ?_)
        refine lv_iinc (v := (nI i) + 1) (lv' := [(4, .int ((nI i) + 1)), (3, .int ((nI (fb_ct (fun k => safS fo fl pl u k kz) i)) + 1)), (0, .ref mm), (1, .int u), (2, .int (nI kz))]) hx hb dX3_safeAround_31 hl (k := 1) rfl rfl (by decide) rfl (fun ls hl => ?_)
        refine lv_goto (tgt := 5) hx hb dX3_safeAround_34 (by decide) ?_
        have hl : lv_has ls 5 [(4, .int (nI (i + 1))), (3, .int ((nI (fb_ct (fun k => safS fo fl pl u k kz) i)) + 1)), (0, .ref mm), (1, .int u), (2, .int (nI kz))] := (show (nI i) + 1 = nI (i + 1) from nI_1 i) ▸ hl
        have hl : lv_has ls 5 [(4, .int (nI (i + 1))), (3, .int (nI (fb_ct (fun k => safS fo fl pl u k kz) (i + 1)))), (0, .ref mm), (1, .int u), (2, .int (nI kz))] := (show (nI (fb_ct (fun k => safS fo fl pl u k kz) i)) + 1 = nI (fb_ct (fun k => safS fo fl pl u k kz) (i + 1)) from by rw [fb_ct_succ, hs, nI_1]; rfl) ▸ hl
        exact ih (i + 1) _ (by omega) (lv_sub hl [0, 1, 2, 3, 4] rfl)
  refine lv_iconst (v := 0) hx hb dX3_safeAround_0 (by decide) ?_
  refine lv_istore_n (lv' := [(3, .int 0), (0, .ref mm), (1, .int u), (2, .int (nI kz))]) hx hb dX3_safeAround_1 rfl hl (by decide) rfl (fun ls hl => ?_)
  refine lv_iconst (v := 0) hx hb dX3_safeAround_2 (by decide) ?_
  refine lv_istore (lv' := [(4, .int 0), (3, .int 0), (0, .ref mm), (1, .int u), (2, .int (nI kz))]) hx hb dX3_safeAround_3 hl (by decide) rfl (fun ls hl => ?_)
  have hl : lv_has ls 5 [(4, .int (nI 0)), (3, .int 0), (0, .ref mm), (1, .int u), (2, .int (nI kz))] := (show 0 = nI 0 from rfl) ▸ hl
  have hl : lv_has ls 5 [(4, .int (nI 0)), (3, .int (nI (fb_ct (fun k => safS fo fl pl u k kz) 0))), (0, .ref mm), (1, .int u), (2, .int (nI kz))] := (show 0 = nI (fb_ct (fun k => safS fo fl pl u k kz) 0) from rfl) ▸ hl
  exact loop 8 0 _ (by omega) (lv_sub hl [0, 1, 2, 3, 4] rfl)
