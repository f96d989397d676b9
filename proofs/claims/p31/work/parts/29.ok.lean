set_option maxHeartbeats 4000000 in
set_option maxRecDepth 100000 in
/-- X2_requireDirection, where it passes -/
theorem k_requireDirection_ok (l : Launch) (D : va_G) (L0 : Nat) (v : Int32) (hv : 0 ≤ v ∧ v ≤ 7) : Met l yX2_requireDirection wsX2_requireDirection ({ frames := 1, cells := 0, slots := 0, locals := 22 }) (cP L0 D [] [] [.int v]) (cR none) 0 0 (fun _ => False) := by
  refine Met.ofW (cc := cX2_requireDirection) (maxL := 1) (ret := none) (by decide) rfl ?_
  intro p e s m args below meth c s₁ B hml hv
  obtain ⟨rfl, hP, hK, hD0, hE0⟩ := hv
  have hx := B.exec
  have hb := B.bytes
  have hRt := B.returns
  have hts := atoms_spec (ws := wsX2_requireDirection) B.pre
  have hown : s.vm.findClass RX2 = some m.cls := findClass_of_methodNamed B.named
  have hlocks := B.notSynchronized
  have hAL : ∀ z9 : Nat, (fun _ : Nat => False) z9 → L0 ≤ z9 := fun z9 h9 => False.elim h9
  generalize hAe : (fun _ : Nat => False) = A at hAL ⊢
  have hS : va_S A s.heap s.heap [] := va_S.rf
  have hl := lv_entry ([.int v]) (n := 1) (Nat.le_of_ble_eq_true rfl)
  rw [lg_entry_eq]
  generalize (lg_sl ([.int v]) ++ List.replicate (1 - (lg_sl ([.int v])).length) Slot.unset).toArray = ls at hl ⊢
  have hl : lv_has ls 1 [(0, .int v)] := hl
  refine lv_iload_n hx hb dX2_requireDirection_0 rfl (lv_at hl 0 rfl) ?_
  refine lv_iconst (v := 0) hx hb dX2_requireDirection_1 (by decide) ?_
  refine lv_bipush (v := 7) hx hb dX2_requireDirection_2 (by decide) ?_
  have hPc := hP.sub (ws' := []) [] rfl
  have hDc := hD0.sub (ws' := []) [] (by decide) rfl
  have hKc := hK.sub (tys' := []) [] rfl
  refine c_callR (va_runS (As := [.int v, .int 0, .int 7]) (rest := []) ⟨hx, hb, hml, hown, hts⟩ (k_isWithin l D L0 v 0 7) (va_cwS 3 hts gX2_requireDirection_X2_isWithin rfl rfl rfl (by decide +kernel) ⟨Nat.le_of_ble_eq_true rfl, Nat.le_of_ble_eq_true rfl⟩) ⟨cP_blind, cP_of hPc hKc hDc (kE_at hE0 hAL hS)⟩ rfl rfl hl.1 rfl (lv_room (Nat.le_of_ble_eq_true rfl)) dX2_requireDirection_4 ⟨Nat.le_of_ble_eq_true rfl, Nat.le_of_ble_eq_true rfl⟩) ?_
  show W _ _ _ _ _ _ _ _ _ _ _ _ _ _ _ (F0 m 7 ls [.int (bI (decide (0 ≤ v) && decide (v ≤ 7)))])
  refine c_top (show (bI (decide (0 ≤ v) && decide (v ≤ 7))) = 1 from isW_yes hv.1 hv.2) ?_
  refine lv_if_ne (tgt := 20) hx hb dX2_requireDirection_7 (by decide) (fun _ => ?_) (fun c_1 => absurd c_1 (by decide))
  exact W.vret hx hb hRt (fun t ht hW => ⟨rfl, ht⟩) hS.2.2 dX2_requireDirection_20
set_option maxHeartbeats 4000000 in
set_option maxRecDepth 100000 in
/-- X2_requireSide, where it passes -/
theorem k_requireSide_ok (l : Launch) (D : va_G) (L0 : Nat) (v : Int32) (hv : 0 ≤ v ∧ v ≤ 3) : Met l yX2_requireSide wsX2_requireSide ({ frames := 1, cells := 0, slots := 0, locals := 22 }) (cP L0 D [] [] [.int v]) (cR none) 0 0 (fun _ => False) := by
  refine Met.ofW (cc := cX2_requireSide) (maxL := 1) (ret := none) (by decide) rfl ?_
  intro p e s m args below meth c s₁ B hml hv
  obtain ⟨rfl, hP, hK, hD0, hE0⟩ := hv
  have hx := B.exec
  have hb := B.bytes
  have hRt := B.returns
  have hts := atoms_spec (ws := wsX2_requireSide) B.pre
  have hown : s.vm.findClass RX2 = some m.cls := findClass_of_methodNamed B.named
  have hlocks := B.notSynchronized
  have hAL : ∀ z9 : Nat, (fun _ : Nat => False) z9 → L0 ≤ z9 := fun z9 h9 => False.elim h9
  generalize hAe : (fun _ : Nat => False) = A at hAL ⊢
  have hS : va_S A s.heap s.heap [] := va_S.rf
  have hl := lv_entry ([.int v]) (n := 1) (Nat.le_of_ble_eq_true rfl)
  rw [lg_entry_eq]
  generalize (lg_sl ([.int v]) ++ List.replicate (1 - (lg_sl ([.int v])).length) Slot.unset).toArray = ls at hl ⊢
  have hl : lv_has ls 1 [(0, .int v)] := hl
  refine lv_iload_n hx hb dX2_requireSide_0 rfl (lv_at hl 0 rfl) ?_
  refine lv_iconst (v := 0) hx hb dX2_requireSide_1 (by decide) ?_
  refine lv_iconst (v := 3) hx hb dX2_requireSide_2 (by decide) ?_
  have hPc := hP.sub (ws' := []) [] rfl
  have hDc := hD0.sub (ws' := []) [] (by decide) rfl
  have hKc := hK.sub (tys' := []) [] rfl
  refine c_callR (va_runS (As := [.int v, .int 0, .int 3]) (rest := []) ⟨hx, hb, hml, hown, hts⟩ (k_isWithin l D L0 v 0 3) (va_cwS 3 hts gX2_requireSide_X2_isWithin rfl rfl rfl (by decide +kernel) ⟨Nat.le_of_ble_eq_true rfl, Nat.le_of_ble_eq_true rfl⟩) ⟨cP_blind, cP_of hPc hKc hDc (kE_at hE0 hAL hS)⟩ rfl rfl hl.1 rfl (lv_room (Nat.le_of_ble_eq_true rfl)) dX2_requireSide_3 ⟨Nat.le_of_ble_eq_true rfl, Nat.le_of_ble_eq_true rfl⟩) ?_
  show W _ _ _ _ _ _ _ _ _ _ _ _ _ _ _ (F0 m 6 ls [.int (bI (decide (0 ≤ v) && decide (v ≤ 3)))])
  refine c_top (show (bI (decide (0 ≤ v) && decide (v ≤ 3))) = 1 from isW_yes hv.1 hv.2) ?_
  refine lv_if_ne (tgt := 19) hx hb dX2_requireSide_6 (by decide) (fun _ => ?_) (fun c_2 => absurd c_2 (by decide))
  exact W.vret hx hb hRt (fun t ht hW => ⟨rfl, ht⟩) hS.2.2 dX2_requireSide_19
set_option maxHeartbeats 4000000 in
set_option maxRecDepth 100000 in
/-- isSafeWith, in its ranges -/
theorem k_isSafeWith_ok (l : Launch) (D : va_G) (L0 : Nat) (cI : ClassId) (x rg tr pn ro rl d r : Nat) (ld li tl mo pl : Int32) (fo fl : Nat → Int32) (u : Int32) (hu : 0 ≤ u ∧ u ≤ 60) (kv : Nat) (hkv : kv < 8) (kz : Nat) (hkz : 3 ≤ kz ∧ kz ≤ 30) : Met l yX2_isSafeWith wsX2_isSafeWith ({ frames := 3, cells := 0, slots := 0, locals := 71 }) (cP L0 D [(cI, .int)] [(x, .inr (2, [.ref rg, .ref tr, .ref pn, .int (nI d), .int (nI r), .int ld, .int li, .int tl, .int mo])), (rg, .inr (1, [.ref ro, .ref rl, .int pl])), (ro, .inl (cI, 4, .inl fo)), (rl, .inl (cI, 28, .inl (sh fl)))] [.ref x, .int u, .int (nI kv), .int (nI kz)]) (cR (some (.int (bI (safS fo fl pl u kv kz))))) 0 0 (fun _ => False) := by
  refine Met.ofW (cc := cX2_isSafeWith) (maxL := 4) (ret := (some .boolean)) (by decide) rfl ?_
  intro p e s m args below meth c s₁ B hml hv
  obtain ⟨rfl, hP, hK, hD0, hE0⟩ := hv
  have hx := B.exec
  have hb := B.bytes
  have hRt := B.returns
  have hts := atoms_spec (ws := wsX2_isSafeWith) B.pre
  have hown : s.vm.findClass RX2 = some m.cls := findClass_of_methodNamed B.named
  have hlocks := B.notSynchronized
  have hAL : ∀ z9 : Nat, (fun _ : Nat => False) z9 → L0 ≤ z9 := fun z9 h9 => False.elim h9
  generalize hAe : (fun _ : Nat => False) = A at hAL ⊢
  have hS : va_S A s.heap s.heap [] := va_S.rf
  have hiX2 : ∀ w ∈ u_ws RX2 TX2 9, w ∈ wsX2_isSafeWith := by decide +kernel
  have hl := lv_entry ([.ref x, .int u, .int (nI kv), .int (nI kz)]) (n := 4) (Nat.le_of_ble_eq_true rfl)
  rw [lg_entry_eq]
  generalize (lg_sl ([.ref x, .int u, .int (nI kv), .int (nI kz)]) ++ List.replicate (4 - (lg_sl ([.ref x, .int u, .int (nI kv), .int (nI kz)])).length) Slot.unset).toArray = ls at hl ⊢
  have hl : lv_has ls 4 [(0, .ref x), (1, .int u), (2, .int (nI kv)), (3, .int (nI kz))] := hl
  refine lv_iload_n hx hb dX2_isSafeWith_0 rfl (lv_at hl 2 rfl) ?_
  have hPc := hP.sub (ws' := []) [] rfl
  have hDc := hD0.sub (ws' := []) [] (by decide) rfl
  have hKc := hK.sub (tys' := []) [] rfl
  refine c_callR (va_runS (As := [.int (nI kv)]) (rest := []) ⟨hx, hb, hml, hown, hts⟩ (k_requireDirection_ok l D L0 (nI kv) ⟨nI_le (a := 0) (Nat.zero_le _) (by omega), nI_le (b := 7) (by omega) (by decide)⟩) (va_cwS 1 hts gX2_isSafeWith_X2_requireDirection rfl rfl rfl (by decide +kernel) ⟨Nat.le_of_ble_eq_true rfl, Nat.le_of_ble_eq_true rfl⟩) ⟨cP_blind, cP_of hPc hKc hDc (kE_at hE0 hAL hS)⟩ rfl rfl hl.1 rfl (lv_room (Nat.le_of_ble_eq_true rfl)) dX2_isSafeWith_1 ⟨Nat.le_of_ble_eq_true rfl, Nat.le_of_ble_eq_true rfl⟩) ?_
  show W _ _ _ _ _ _ _ _ _ _ _ _ _ _ _ (F0 m 4 ls [])
  refine lv_iload_n hx hb dX2_isSafeWith_4 rfl (lv_at hl 1 rfl) ?_
  have hPc := hP.sub (ws' := []) [] rfl
  have hDc := hD0.sub (ws' := []) [] (by decide) rfl
  have hKc := hK.sub (tys' := []) [] rfl
  refine c_callR (va_runS (As := [.int u]) (rest := []) ⟨hx, hb, hml, hown, hts⟩ (k_requireLoad_ok l D L0 u hu) (va_cwS 1 hts gX2_isSafeWith_X2_requireLoad rfl rfl rfl (by decide +kernel) ⟨Nat.le_of_ble_eq_true rfl, Nat.le_of_ble_eq_true rfl⟩) ⟨cP_blind, cP_of hPc hKc hDc (kE_at hE0 hAL hS)⟩ rfl rfl hl.1 rfl (lv_room (Nat.le_of_ble_eq_true rfl)) dX2_isSafeWith_5 ⟨Nat.le_of_ble_eq_true rfl, Nat.le_of_ble_eq_true rfl⟩) ?_
  show W _ _ _ _ _ _ _ _ _ _ _ _ _ _ _ (F0 m 8 ls [])
  refine lv_iload_n hx hb dX2_isSafeWith_8 rfl (lv_at hl 3 rfl) ?_
  have hPc := hP.sub (ws' := []) [] rfl
  have hDc := hD0.sub (ws' := []) [] (by decide) rfl
  have hKc := hK.sub (tys' := []) [] rfl
  refine c_callR (va_runS (As := [.int (nI kz)]) (rest := []) ⟨hx, hb, hml, hown, hts⟩ (k_requireReach_ok l D L0 (nI kz) ⟨nI_le (a := 3) hkz.1 (by omega), nI_le (b := 30) hkz.2 (by decide)⟩) (va_cwS 1 hts gX2_isSafeWith_X2_requireReach rfl rfl rfl (by decide +kernel) ⟨Nat.le_of_ble_eq_true rfl, Nat.le_of_ble_eq_true rfl⟩) ⟨cP_blind, cP_of hPc hKc hDc (kE_at hE0 hAL hS)⟩ rfl rfl hl.1 rfl (lv_room (Nat.le_of_ble_eq_true rfl)) dX2_isSafeWith_9 ⟨Nat.le_of_ble_eq_true rfl, Nat.le_of_ble_eq_true rfl⟩) ?_
  show W _ _ _ _ _ _ _ _ _ _ _ _ _ _ _ (F0 m 12 ls [])
  refine lv_aload_n hx hb dX2_isSafeWith_12 rfl (lv_at hl 0 rfl) ?_
  refine va_get (D := D) (ci := 2) (v := .ref rg) (C := RX2) (T := TX2) (N := 9) hx hb hts hiX2 hown hK hP 0 rfl rfl 0 (by decide) (hts (.fieldLink RX2 12 "CraneReach" "rig" "LCraneReach$Rig;") (by decide +kernel)) (fun _ h9 => h9) rfl dX2_isSafeWith_13 ?_
  refine lv_iload_n hx hb dX2_isSafeWith_16 rfl (lv_at hl 1 rfl) ?_
  refine lv_iload_n hx hb dX2_isSafeWith_17 rfl (lv_at hl 2 rfl) ?_
  refine lv_iload_n hx hb dX2_isSafeWith_18 rfl (lv_at hl 3 rfl) ?_
  have hPc := hP.sub (ws' := [(rg, .inr (1, [.ref ro, .ref rl, .int pl])), (ro, .inl (cI, 4, .inl fo)), (rl, .inl (cI, 28, .inl (sh fl)))]) [1, 2, 3] rfl
  have hDc := hD0.sub (ws' := [(rg, .inr (1, [.ref ro, .ref rl, .int pl])), (ro, .inl (cI, 4, .inl fo)), (rl, .inl (cI, 28, .inl (sh fl)))]) [1, 2, 3] (by decide) rfl
  have hKc := hK.sub (tys' := [(cI, .int)]) [0] rfl
  refine c_callR (va_runV (As := [.int u, .int (nI kv), .int (nI kz)]) (rest := []) ⟨hx, hb, hml, hown, hts⟩ (k_isSafe l D L0 cI rg ro rl pl fo fl kv kz u hkv hkz) (cwV 3 hts gX2_isSafeWith_X1_isSafe rfl rfl rfl (by decide +kernel) ⟨Nat.le_of_ble_eq_true rfl, Nat.le_of_ble_eq_true rfl⟩) ⟨cP_blind, va_recv hKc hPc (ci := 1) (q0 := 0) rfl rfl, cP_of hPc hKc hDc (kE_at hE0 hAL hS)⟩ rfl rfl hl.1 rfl (lv_room (Nat.le_of_ble_eq_true rfl)) dX2_isSafeWith_19 ⟨Nat.le_of_ble_eq_true rfl, Nat.le_of_ble_eq_true rfl⟩) ?_
  show W _ _ _ _ _ _ _ _ _ _ _ _ _ _ _ (F0 m 22 ls [.int (bI (safS fo fl pl u kv kz))])
  exact W.zret (v := (bI (safS fo fl pl u kv kz))) hx hb hRt (bI_nar _) (fun t ht hW => ⟨rfl, ht⟩) hS.2.2 dX2_isSafeWith_22
set_option maxHeartbeats 4000000 in
set_option maxRecDepth 100000 in
/-- outrigger, in its range -/
theorem k_outrigger_ok (l : Launch) (D : va_G) (L0 : Nat) (cI : ClassId) (x rg tr pn ro rl d r : Nat) (ld li tl mo pl : Int32) (fo fl : Nat → Int32) (kv : Nat) (hkv : kv < 4) : Met l yX2_outrigger wsX2_outrigger ({ frames := 2, cells := 0, slots := 0, locals := 42 }) (cP L0 D [(cI, .int)] [(x, .inr (2, [.ref rg, .ref tr, .ref pn, .int (nI d), .int (nI r), .int ld, .int li, .int tl, .int mo])), (rg, .inr (1, [.ref ro, .ref rl, .int pl])), (ro, .inl (cI, 4, .inl fo)), (rl, .inl (cI, 28, .inl (sh fl)))] [.ref x, .int (nI kv)]) (cR (some (.int (fo kv)))) 0 0 (fun _ => False) := by
  refine Met.ofW (cc := cX2_outrigger) (maxL := 2) (ret := (some .int)) (by decide) rfl ?_
  intro p e s m args below meth c s₁ B hml hv
  obtain ⟨rfl, hP, hK, hD0, hE0⟩ := hv
  have hx := B.exec
  have hb := B.bytes
  have hRt := B.returns
  have hts := atoms_spec (ws := wsX2_outrigger) B.pre
  have hown : s.vm.findClass RX2 = some m.cls := findClass_of_methodNamed B.named
  have hlocks := B.notSynchronized
  have hAL : ∀ z9 : Nat, (fun _ : Nat => False) z9 → L0 ≤ z9 := fun z9 h9 => False.elim h9
  generalize hAe : (fun _ : Nat => False) = A at hAL ⊢
  have hS : va_S A s.heap s.heap [] := va_S.rf
  have hiX2 : ∀ w ∈ u_ws RX2 TX2 9, w ∈ wsX2_outrigger := by decide +kernel
  have hl := lv_entry ([.ref x, .int (nI kv)]) (n := 2) (Nat.le_of_ble_eq_true rfl)
  rw [lg_entry_eq]
  generalize (lg_sl ([.ref x, .int (nI kv)]) ++ List.replicate (2 - (lg_sl ([.ref x, .int (nI kv)])).length) Slot.unset).toArray = ls at hl ⊢
  have hl : lv_has ls 2 [(0, .ref x), (1, .int (nI kv))] := hl
  refine lv_iload_n hx hb dX2_outrigger_0 rfl (lv_at hl 1 rfl) ?_
  have hPc := hP.sub (ws' := []) [] rfl
  have hDc := hD0.sub (ws' := []) [] (by decide) rfl
  have hKc := hK.sub (tys' := []) [] rfl
  refine c_callR (va_runS (As := [.int (nI kv)]) (rest := []) ⟨hx, hb, hml, hown, hts⟩ (k_requireSide_ok l D L0 (nI kv) ⟨nI_le (a := 0) (Nat.zero_le _) (by omega), nI_le (b := 3) (by omega) (by decide)⟩) (va_cwS 1 hts gX2_outrigger_X2_requireSide rfl rfl rfl (by decide +kernel) ⟨Nat.le_of_ble_eq_true rfl, Nat.le_of_ble_eq_true rfl⟩) ⟨cP_blind, cP_of hPc hKc hDc (kE_at hE0 hAL hS)⟩ rfl rfl hl.1 rfl (lv_room (Nat.le_of_ble_eq_true rfl)) dX2_outrigger_1 ⟨Nat.le_of_ble_eq_true rfl, Nat.le_of_ble_eq_true rfl⟩) ?_
  show W _ _ _ _ _ _ _ _ _ _ _ _ _ _ _ (F0 m 4 ls [])
  refine lv_aload_n hx hb dX2_outrigger_4 rfl (lv_at hl 0 rfl) ?_
  refine va_get (D := D) (ci := 2) (v := .ref rg) (C := RX2) (T := TX2) (N := 9) hx hb hts hiX2 hown hK hP 0 rfl rfl 0 (by decide) (hts (.fieldLink RX2 12 "CraneReach" "rig" "LCraneReach$Rig;") (by decide +kernel)) (fun _ h9 => h9) rfl dX2_outrigger_5 ?_
  refine lv_iload_n hx hb dX2_outrigger_8 rfl (lv_at hl 1 rfl) ?_
  have hPc := hP.sub (ws' := [(rg, .inr (1, [.ref ro, .ref rl, .int pl])), (ro, .inl (cI, 4, .inl fo)), (rl, .inl (cI, 28, .inl (sh fl)))]) [1, 2, 3] rfl
  have hDc := hD0.sub (ws' := [(rg, .inr (1, [.ref ro, .ref rl, .int pl])), (ro, .inl (cI, 4, .inl fo)), (rl, .inl (cI, 28, .inl (sh fl)))]) [1, 2, 3] (by decide) rfl
  have hKc := hK.sub (tys' := [(cI, .int)]) [0] rfl
  refine c_callR (va_runV (As := [.int (nI kv)]) (rest := []) ⟨hx, hb, hml, hown, hts⟩ (k_drawn l D L0 cI rg ro rl pl fo (sh fl) kv hkv) (cwV 1 hts gX2_outrigger_X1_drawn rfl rfl rfl (by decide +kernel) ⟨Nat.le_of_ble_eq_true rfl, Nat.le_of_ble_eq_true rfl⟩) ⟨cP_blind, va_recv hKc hPc (ci := 1) (q0 := 0) rfl rfl, cP_of hPc hKc hDc (kE_at hE0 hAL hS)⟩ rfl rfl hl.1 rfl (lv_room (Nat.le_of_ble_eq_true rfl)) dX2_outrigger_9 ⟨Nat.le_of_ble_eq_true rfl, Nat.le_of_ble_eq_true rfl⟩) ?_
  show W _ _ _ _ _ _ _ _ _ _ _ _ _ _ _ (F0 m 12 ls [.int (fo kv)])
  exact W.iret (v := (fo kv)) hx hb hRt (fun t ht hW => ⟨rfl, ht⟩) hS.2.2 dX2_outrigger_12
set_option maxHeartbeats 4000000 in
set_option maxRecDepth 100000 in
/-- limitAt, in its range -/
theorem k_limitAt_ok (l : Launch) (D : va_G) (L0 : Nat) (cI : ClassId) (x rg tr pn ro rl d r : Nat) (ld li tl mo pl : Int32) (fo fl : Nat → Int32) (kz : Nat) (hkz : 3 ≤ kz ∧ kz ≤ 30) : Met l yX2_limitAt wsX2_limitAt ({ frames := 3, cells := 0, slots := 0, locals := 62 }) (cP L0 D [(cI, .int)] [(x, .inr (2, [.ref rg, .ref tr, .ref pn, .int (nI d), .int (nI r), .int ld, .int li, .int tl, .int mo])), (rg, .inr (1, [.ref ro, .ref rl, .int pl])), (ro, .inl (cI, 4, .inl fo)), (rl, .inl (cI, 28, .inl (sh fl)))] [.ref x, .int (nI kz)]) (cR (some (.int (fl kz)))) 0 0 (fun _ => False) := by
  refine Met.ofW (cc := cX2_limitAt) (maxL := 2) (ret := (some .int)) (by decide) rfl ?_
  intro p e s m args below meth c s₁ B hml hv
  obtain ⟨rfl, hP, hK, hD0, hE0⟩ := hv
  have hx := B.exec
  have hb := B.bytes
  have hRt := B.returns
  have hts := atoms_spec (ws := wsX2_limitAt) B.pre
  have hown : s.vm.findClass RX2 = some m.cls := findClass_of_methodNamed B.named
  have hlocks := B.notSynchronized
  have hAL : ∀ z9 : Nat, (fun _ : Nat => False) z9 → L0 ≤ z9 := fun z9 h9 => False.elim h9
  generalize hAe : (fun _ : Nat => False) = A at hAL ⊢
  have hS : va_S A s.heap s.heap [] := va_S.rf
  have hiX2 : ∀ w ∈ u_ws RX2 TX2 9, w ∈ wsX2_limitAt := by decide +kernel
  have hl := lv_entry ([.ref x, .int (nI kz)]) (n := 2) (Nat.le_of_ble_eq_true rfl)
  rw [lg_entry_eq]
  generalize (lg_sl ([.ref x, .int (nI kz)]) ++ List.replicate (2 - (lg_sl ([.ref x, .int (nI kz)])).length) Slot.unset).toArray = ls at hl ⊢
  have hl : lv_has ls 2 [(0, .ref x), (1, .int (nI kz))] := hl
  refine lv_iload_n hx hb dX2_limitAt_0 rfl (lv_at hl 1 rfl) ?_
  have hPc := hP.sub (ws' := []) [] rfl
  have hDc := hD0.sub (ws' := []) [] (by decide) rfl
  have hKc := hK.sub (tys' := []) [] rfl
  refine c_callR (va_runS (As := [.int (nI kz)]) (rest := []) ⟨hx, hb, hml, hown, hts⟩ (k_requireReach_ok l D L0 (nI kz) ⟨nI_le (a := 3) hkz.1 (by omega), nI_le (b := 30) hkz.2 (by decide)⟩) (va_cwS 1 hts gX2_limitAt_X2_requireReach rfl rfl rfl (by decide +kernel) ⟨Nat.le_of_ble_eq_true rfl, Nat.le_of_ble_eq_true rfl⟩) ⟨cP_blind, cP_of hPc hKc hDc (kE_at hE0 hAL hS)⟩ rfl rfl hl.1 rfl (lv_room (Nat.le_of_ble_eq_true rfl)) dX2_limitAt_1 ⟨Nat.le_of_ble_eq_true rfl, Nat.le_of_ble_eq_true rfl⟩) ?_
  show W _ _ _ _ _ _ _ _ _ _ _ _ _ _ _ (F0 m 4 ls [])
  refine lv_aload_n hx hb dX2_limitAt_4 rfl (lv_at hl 0 rfl) ?_
  refine va_get (D := D) (ci := 2) (v := .ref rg) (C := RX2) (T := TX2) (N := 9) hx hb hts hiX2 hown hK hP 0 rfl rfl 0 (by decide) (hts (.fieldLink RX2 12 "CraneReach" "rig" "LCraneReach$Rig;") (by decide +kernel)) (fun _ h9 => h9) rfl dX2_limitAt_5 ?_
  refine lv_iload_n hx hb dX2_limitAt_8 rfl (lv_at hl 1 rfl) ?_
  have hPc := hP.sub (ws' := [(rg, .inr (1, [.ref ro, .ref rl, .int pl])), (ro, .inl (cI, 4, .inl fo)), (rl, .inl (cI, 28, .inl (sh fl)))]) [1, 2, 3] rfl
  have hDc := hD0.sub (ws' := [(rg, .inr (1, [.ref ro, .ref rl, .int pl])), (ro, .inl (cI, 4, .inl fo)), (rl, .inl (cI, 28, .inl (sh fl)))]) [1, 2, 3] (by decide) rfl
  have hKc := hK.sub (tys' := [(cI, .int)]) [0] rfl
  refine c_callR (va_runV (As := [.int (nI kz)]) (rest := []) ⟨hx, hb, hml, hown, hts⟩ (k_allowed l D L0 cI rg ro rl pl fo (sh fl) kz hkz) (cwV 1 hts gX2_limitAt_X1_allowed rfl rfl rfl (by decide +kernel) ⟨Nat.le_of_ble_eq_true rfl, Nat.le_of_ble_eq_true rfl⟩) ⟨cP_blind, va_recv hKc hPc (ci := 1) (q0 := 0) rfl rfl, cP_of hPc hKc hDc (kE_at hE0 hAL hS)⟩ rfl rfl hl.1 rfl (lv_room (Nat.le_of_ble_eq_true rfl)) dX2_limitAt_9 ⟨Nat.le_of_ble_eq_true rfl, Nat.le_of_ble_eq_true rfl⟩) ?_
  show W _ _ _ _ _ _ _ _ _ _ _ _ _ _ _ (F0 m 12 ls [.int (sh fl (kz - 3))])
  refine c_top (show (sh fl (kz - 3)) = fl kz from sh_at hkz.1) ?_
  exact W.iret (v := (fl kz)) hx hb hRt (fun t ht hW => ⟨rfl, ht⟩) hS.2.2 dX2_limitAt_12
set_option maxHeartbeats 4000000 in
set_option maxRecDepth 100000 in
/-- strainOn, in its range -/
theorem k_strainOn_ok (l : Launch) (D : va_G) (L0 : Nat) (cI : ClassId) (x rg tr pn ro rl d r : Nat) (ld li tl mo pl : Int32) (fo fl : Nat → Int32) (kv : Nat) (hkv : kv < 4) (hd : d < 8) : Met l yX2_strainOn wsX2_strainOn ({ frames := 2, cells := 0, slots := 0, locals := 47 }) (cP L0 D [(cI, .int)] [(x, .inr (2, [.ref rg, .ref tr, .ref pn, .int (nI d), .int (nI r), .int ld, .int li, .int tl, .int mo])), (rg, .inr (1, [.ref ro, .ref rl, .int pl])), (ro, .inl (cI, 4, .inl fo)), (rl, .inl (cI, 28, .inl (sh fl)))] [.ref x, .int (nI kv)]) (cR (some (.int (strS fo pl kv ld d r)))) 0 0 (fun _ => False) := by
  refine Met.ofW (cc := cX2_strainOn) (maxL := 2) (ret := (some .int)) (by decide) rfl ?_
  intro p e s m args below meth c s₁ B hml hv
  obtain ⟨rfl, hP, hK, hD0, hE0⟩ := hv
  have hx := B.exec
  have hb := B.bytes
  have hRt := B.returns
  have hts := atoms_spec (ws := wsX2_strainOn) B.pre
  have hown : s.vm.findClass RX2 = some m.cls := findClass_of_methodNamed B.named
  have hlocks := B.notSynchronized
  have hAL : ∀ z9 : Nat, (fun _ : Nat => False) z9 → L0 ≤ z9 := fun z9 h9 => False.elim h9
  generalize hAe : (fun _ : Nat => False) = A at hAL ⊢
  have hS : va_S A s.heap s.heap [] := va_S.rf
  have hiX2 : ∀ w ∈ u_ws RX2 TX2 9, w ∈ wsX2_strainOn := by decide +kernel
  have hl := lv_entry ([.ref x, .int (nI kv)]) (n := 2) (Nat.le_of_ble_eq_true rfl)
  rw [lg_entry_eq]
  generalize (lg_sl ([.ref x, .int (nI kv)]) ++ List.replicate (2 - (lg_sl ([.ref x, .int (nI kv)])).length) Slot.unset).toArray = ls at hl ⊢
  have hl : lv_has ls 2 [(0, .ref x), (1, .int (nI kv))] := hl
  refine lv_iload_n hx hb dX2_strainOn_0 rfl (lv_at hl 1 rfl) ?_
  have hPc := hP.sub (ws' := []) [] rfl
  have hDc := hD0.sub (ws' := []) [] (by decide) rfl
  have hKc := hK.sub (tys' := []) [] rfl
  refine c_callR (va_runS (As := [.int (nI kv)]) (rest := []) ⟨hx, hb, hml, hown, hts⟩ (k_requireSide_ok l D L0 (nI kv) ⟨nI_le (a := 0) (Nat.zero_le _) (by omega), nI_le (b := 3) (by omega) (by decide)⟩) (va_cwS 1 hts gX2_strainOn_X2_requireSide rfl rfl rfl (by decide +kernel) ⟨Nat.le_of_ble_eq_true rfl, Nat.le_of_ble_eq_true rfl⟩) ⟨cP_blind, cP_of hPc hKc hDc (kE_at hE0 hAL hS)⟩ rfl rfl hl.1 rfl (lv_room (Nat.le_of_ble_eq_true rfl)) dX2_strainOn_1 ⟨Nat.le_of_ble_eq_true rfl, Nat.le_of_ble_eq_true rfl⟩) ?_
  show W _ _ _ _ _ _ _ _ _ _ _ _ _ _ _ (F0 m 4 ls [])
  refine lv_aload_n hx hb dX2_strainOn_4 rfl (lv_at hl 0 rfl) ?_
  refine va_get (D := D) (ci := 2) (v := .ref rg) (C := RX2) (T := TX2) (N := 9) hx hb hts hiX2 hown hK hP 0 rfl rfl 0 (by decide) (hts (.fieldLink RX2 12 "CraneReach" "rig" "LCraneReach$Rig;") (by decide +kernel)) (fun _ h9 => h9) rfl dX2_strainOn_5 ?_
  refine lv_iload_n hx hb dX2_strainOn_8 rfl (lv_at hl 1 rfl) ?_
  refine lv_aload_n hx hb dX2_strainOn_9 rfl (lv_at hl 0 rfl) ?_
  refine va_get (D := D) (ci := 2) (v := .int ld) (C := RX2) (T := TX2) (N := 9) hx hb hts hiX2 hown hK hP 0 rfl rfl 5 (by decide) (hts (.fieldLink RX2 48 "CraneReach" "load" "I") (by decide +kernel)) (fun _ h9 => h9) rfl dX2_strainOn_10 ?_
  refine lv_aload_n hx hb dX2_strainOn_13 rfl (lv_at hl 0 rfl) ?_
  refine va_get (D := D) (ci := 2) (v := .int (nI d)) (C := RX2) (T := TX2) (N := 9) hx hb hts hiX2 hown hK hP 0 rfl rfl 3 (by decide) (hts (.fieldLink RX2 98 "CraneReach" "direction" "I") (by decide +kernel)) (fun _ h9 => h9) rfl dX2_strainOn_14 ?_
  refine lv_aload_n hx hb dX2_strainOn_17 rfl (lv_at hl 0 rfl) ?_
  refine va_get (D := D) (ci := 2) (v := .int (nI r)) (C := RX2) (T := TX2) (N := 9) hx hb hts hiX2 hown hK hP 0 rfl rfl 4 (by decide) (hts (.fieldLink RX2 26 "CraneReach" "reach" "I") (by decide +kernel)) (fun _ h9 => h9) rfl dX2_strainOn_18 ?_
  have hPc := hP.sub (ws' := [(rg, .inr (1, [.ref ro, .ref rl, .int pl])), (ro, .inl (cI, 4, .inl fo)), (rl, .inl (cI, 28, .inl (sh fl)))]) [1, 2, 3] rfl
  have hDc := hD0.sub (ws' := [(rg, .inr (1, [.ref ro, .ref rl, .int pl])), (ro, .inl (cI, 4, .inl fo)), (rl, .inl (cI, 28, .inl (sh fl)))]) [1, 2, 3] (by decide) rfl
  have hKc := hK.sub (tys' := [(cI, .int)]) [0] rfl
  refine c_callR (va_runV (As := [.int (nI kv), .int ld, .int (nI d), .int (nI r)]) (rest := []) ⟨hx, hb, hml, hown, hts⟩ (k_strain l D L0 cI rg ro rl pl fo (sh fl) kv d r ld hkv hd) (cwV 4 hts gX2_strainOn_X1_strain rfl rfl rfl (by decide +kernel) ⟨Nat.le_of_ble_eq_true rfl, Nat.le_of_ble_eq_true rfl⟩) ⟨cP_blind, va_recv hKc hPc (ci := 1) (q0 := 0) rfl rfl, cP_of hPc hKc hDc (kE_at hE0 hAL hS)⟩ rfl rfl hl.1 rfl (lv_room (Nat.le_of_ble_eq_true rfl)) dX2_strainOn_21 ⟨Nat.le_of_ble_eq_true rfl, Nat.le_of_ble_eq_true rfl⟩) ?_
  show W _ _ _ _ _ _ _ _ _ _ _ _ _ _ _ (F0 m 24 ls [.int (strS fo pl kv ld d r)])
  exact W.iret (v := (strS fo pl kv ld d r)) hx hb hRt (fun t ht hW => ⟨rfl, ht⟩) hS.2.2 dX2_strainOn_24
set_option maxHeartbeats 4000000 in
set_option maxRecDepth 100000 in
/-- farthestReach, in its ranges -/
theorem k_farthestReach_ok (l : Launch) (D : va_G) (L0 : Nat) (cI : ClassId) (x rg tr pn ro rl d r : Nat) (ld li tl mo pl : Int32) (fo fl : Nat → Int32) (u : Int32) (hu : 0 ≤ u ∧ u ≤ 60) (kv : Nat) (hkv : kv < 8) : Met l yX2_farthestReach wsX2_farthestReach ({ frames := 3, cells := 0, slots := 0, locals := 71 }) (cP L0 D [(cI, .int)] [(x, .inr (2, [.ref rg, .ref tr, .ref pn, .int (nI d), .int (nI r), .int ld, .int li, .int tl, .int mo])), (rg, .inr (1, [.ref ro, .ref rl, .int pl])), (ro, .inl (cI, 4, .inl fo)), (rl, .inl (cI, 28, .inl (sh fl)))] [.ref x, .int u, .int (nI kv)]) (cR (some (.int (faI (faN (fun k => safS fo fl pl u kv k) 28 3))))) 0 0 (fun _ => False) := by
  refine Met.ofW (cc := cX2_farthestReach) (maxL := 5) (ret := (some .int)) (by decide) rfl ?_
  intro p e s m args below meth c s₁ B hml hv
  obtain ⟨rfl, hP, hK, hD0, hE0⟩ := hv
  have hx := B.exec
  have hb := B.bytes
  have hRt := B.returns
  have hts := atoms_spec (ws := wsX2_farthestReach) B.pre
  have hown : s.vm.findClass RX2 = some m.cls := findClass_of_methodNamed B.named
  have hlocks := B.notSynchronized
  have hAL : ∀ z9 : Nat, (fun _ : Nat => False) z9 → L0 ≤ z9 := fun z9 h9 => False.elim h9
  generalize hAe : (fun _ : Nat => False) = A at hAL ⊢
  have hS : va_S A s.heap s.heap [] := va_S.rf
  have hiX2 : ∀ w ∈ u_ws RX2 TX2 9, w ∈ wsX2_farthestReach := by decide +kernel
  have hl := lv_entry ([.ref x, .int u, .int (nI kv)]) (n := 5) (Nat.le_of_ble_eq_true rfl)
  rw [lg_entry_eq]
  generalize (lg_sl ([.ref x, .int u, .int (nI kv)]) ++ List.replicate (5 - (lg_sl ([.ref x, .int u, .int (nI kv)])).length) Slot.unset).toArray = ls at hl ⊢
  have hl : lv_has ls 5 [(0, .ref x), (1, .int u), (2, .int (nI kv))] := hl
  have loop : ∀ (n : Nat) (i : Nat) (ls : Array Slot), i + n = 31 → 3 ≤ i → faN (fun k => safS fo fl pl u kv k) n i = faN (fun k => safS fo fl pl u kv k) 28 3 → lv_has ls 5 [(4, .int (nI i)), (3, .int (faI i)), (0, .ref x), (1, .int u), (2, .int (nI kv))] → W p l e (headSpec wsX2_farthestReach ({ frames := 3, cells := 0, slots := 0, locals := 71 })).room s m ([.ref x, .int u, .int (nI kv)]).toArray below meth c s.heap [] 0 0 (MQ below (cR (some (.int (faI (faN (fun k => safS fo fl pl u kv k) 28 3))))) ([.ref x, .int u, .int (nI kv)]).toArray s 0 0 A) (F0 m 13 ls []) := by
    intro n
    induction n with
    | zero =>
      intro i ls hn h3 hG hl
      have hi : i = 31 := by omega
      rw [hi] at hl hG
      refine lv_iload hx hb dX2_farthestReach_13 (lv_at hl 0 rfl) ?_
      refine lv_bipush (v := 30) hx hb dX2_farthestReach_15 (by decide) ?_
      refine lv_icmp_gt (tgt := 43) hx hb dX2_farthestReach_17 (by decide) (fun _ => ?_) (fun c_3 => absurd (by decide) c_3)
      refine lv_iload_n hx hb dX2_farthestReach_43 rfl (lv_at hl 1 rfl) ?_
      exact W.iret (v := (faI 31)) hx hb hRt (fun t ht hW => ⟨by rw [← hG]; rfl, ht⟩) hS.2.2 dX2_farthestReach_44
    | succ n ih =>
      intro i ls hn h3 hG hl
      refine lv_iload hx hb dX2_farthestReach_13 (lv_at hl 0 rfl) ?_
      refine lv_bipush (v := 30) hx hb dX2_farthestReach_15 (by decide) ?_
      refine lv_icmp_gt (tgt := 43) hx hb dX2_farthestReach_17 (by decide) (fun c_4 => absurd c_4 (Int32.not_lt.mpr (nI_le (b := 30) (by omega) (by decide)))) (fun _ => ?_)
      refine lv_aload_n hx hb dX2_farthestReach_20 rfl (lv_at hl 2 rfl) ?_
      refine va_get (D := D) (ci := 2) (v := .ref rg) (C := RX2) (T := TX2) (N := 9) hx hb hts hiX2 hown hK hP 0 rfl rfl 0 (by decide) (hts (.fieldLink RX2 12 "CraneReach" "rig" "LCraneReach$Rig;") (by decide +kernel)) (fun _ h9 => h9) rfl dX2_farthestReach_21 ?_
      refine lv_iload_n hx hb dX2_farthestReach_24 rfl (lv_at hl 3 rfl) ?_
      refine lv_iload_n hx hb dX2_farthestReach_25 rfl (lv_at hl 4 rfl) ?_
      refine lv_iload hx hb dX2_farthestReach_26 (lv_at hl 0 rfl) ?_
      have hPc := hP.sub (ws' := [(rg, .inr (1, [.ref ro, .ref rl, .int pl])), (ro, .inl (cI, 4, .inl fo)), (rl, .inl (cI, 28, .inl (sh fl)))]) [1, 2, 3] rfl
      have hDc := hD0.sub (ws' := [(rg, .inr (1, [.ref ro, .ref rl, .int pl])), (ro, .inl (cI, 4, .inl fo)), (rl, .inl (cI, 28, .inl (sh fl)))]) [1, 2, 3] (by decide) rfl
      have hKc := hK.sub (tys' := [(cI, .int)]) [0] rfl
      refine c_callR (va_runV (As := [.int u, .int (nI kv), .int (nI i)]) (rest := []) ⟨hx, hb, hml, hown, hts⟩ (k_isSafe l D L0 cI rg ro rl pl fo fl kv i u hkv ⟨h3, by omega⟩) (cwV 3 hts gX2_farthestReach_X1_isSafe rfl rfl rfl (by decide +kernel) ⟨Nat.le_of_ble_eq_true rfl, Nat.le_of_ble_eq_true rfl⟩) ⟨cP_blind, va_recv hKc hPc (ci := 1) (q0 := 0) rfl rfl, cP_of hPc hKc hDc (kE_at hE0 hAL hS)⟩ rfl rfl hl.1 rfl (lv_room (Nat.le_of_ble_eq_true rfl)) dX2_farthestReach_28 ⟨Nat.le_of_ble_eq_true rfl, Nat.le_of_ble_eq_true rfl⟩) ?_
      show W _ _ _ _ _ _ _ _ _ _ _ _ _ _ _ (F0 m 31 ls [.int (bI (safS fo fl pl u kv i))])
      obtain ⟨b_5, hbv_6⟩ : ∃ z9 : Bool, z9 = safS fo fl pl u kv i := ⟨_, rfl⟩
      refine c_top (show (bI (safS fo fl pl u kv i)) = bI b_5 from by rw [hbv_6]) ?_
      refine lv_if_eq (tgt := 43) hx hb dX2_farthestReach_31 (by decide) (fun c_7 => ?_) (fun c_7 => ?_)
      · have hs : safS fo fl pl u kv i = false := by rw [← hbv_6]; cases b_5 with | false => rfl | true => exact absurd c_7 (by decide)
        refine lv_iload_n hx hb dX2_farthestReach_43 rfl (lv_at hl 1 rfl) ?_
        exact W.iret (v := (faI i)) hx hb hRt (fun t ht hW => ⟨by rw [← hG, faN, if_neg (by rw [hs]; decide)], ht⟩) hS.2.2 dX2_farthestReach_44
      · have hs : safS fo fl pl u kv i = true := by rw [← hbv_6]; cases b_5 with | true => rfl | false => exact absurd rfl c_7
        refine lv_iload hx hb dX2_farthestReach_34 (lv_at hl 0 rfl) ?_
        refine lv_istore_n (lv' := [(3, .int (nI i)), (4, .int (nI i)), (0, .ref x), (1, .int u), (2, .int (nI kv))]) hx hb dX2_farthestReach_36 rfl hl (by decide) rfl (fun ls hl => ?_)
        refine lv_iinc (v := (nI i) + 1) (lv' := [(4, .int ((nI i) + 1)), (3, .int (nI i)), (0, .ref x), (1, .int u), (2, .int (nI kv))]) hx hb dX2_farthestReach_37 hl (k := 1) rfl rfl (by decide) rfl (fun ls hl => ?_)
        refine lv_goto (tgt := 13) hx hb dX2_farthestReach_40 (by decide) ?_
        have hl : lv_has ls 5 [(4, .int (nI (i + 1))), (3, .int (nI i)), (0, .ref x), (1, .int u), (2, .int (nI kv))] := (show (nI i) + 1 = nI (i + 1) from nI_1 i) ▸ hl
        have hl : lv_has ls 5 [(4, .int (nI (i + 1))), (3, .int (faI (i + 1))), (0, .ref x), (1, .int u), (2, .int (nI kv))] := (show nI i = faI (i + 1) from by rw [faI, if_neg (by omega)]; rfl) ▸ hl
        exact ih (i + 1) _ (by omega) (by omega) (by rw [← hG, faN, if_pos hs]) (lv_sub hl [0, 1, 2, 3, 4] rfl)
  refine lv_iload_n hx hb dX2_farthestReach_0 rfl (lv_at hl 2 rfl) ?_
  have hPc := hP.sub (ws' := []) [] rfl
  have hDc := hD0.sub (ws' := []) [] (by decide) rfl
  have hKc := hK.sub (tys' := []) [] rfl
  refine c_callR (va_runS (As := [.int (nI kv)]) (rest := []) ⟨hx, hb, hml, hown, hts⟩ (k_requireDirection_ok l D L0 (nI kv) ⟨nI_le (a := 0) (Nat.zero_le _) (by omega), nI_le (b := 7) (by omega) (by decide)⟩) (va_cwS 1 hts gX2_farthestReach_X2_requireDirection rfl rfl rfl (by decide +kernel) ⟨Nat.le_of_ble_eq_true rfl, Nat.le_of_ble_eq_true rfl⟩) ⟨cP_blind, cP_of hPc hKc hDc (kE_at hE0 hAL hS)⟩ rfl rfl hl.1 rfl (lv_room (Nat.le_of_ble_eq_true rfl)) dX2_farthestReach_1 ⟨Nat.le_of_ble_eq_true rfl, Nat.le_of_ble_eq_true rfl⟩) ?_
  show W _ _ _ _ _ _ _ _ _ _ _ _ _ _ _ (F0 m 4 ls [])
  refine lv_iload_n hx hb dX2_farthestReach_4 rfl (lv_at hl 1 rfl) ?_
  have hPc := hP.sub (ws' := []) [] rfl
  have hDc := hD0.sub (ws' := []) [] (by decide) rfl
  have hKc := hK.sub (tys' := []) [] rfl
  refine c_callR (va_runS (As := [.int u]) (rest := []) ⟨hx, hb, hml, hown, hts⟩ (k_requireLoad_ok l D L0 u hu) (va_cwS 1 hts gX2_farthestReach_X2_requireLoad rfl rfl rfl (by decide +kernel) ⟨Nat.le_of_ble_eq_true rfl, Nat.le_of_ble_eq_true rfl⟩) ⟨cP_blind, cP_of hPc hKc hDc (kE_at hE0 hAL hS)⟩ rfl rfl hl.1 rfl (lv_room (Nat.le_of_ble_eq_true rfl)) dX2_farthestReach_5 ⟨Nat.le_of_ble_eq_true rfl, Nat.le_of_ble_eq_true rfl⟩) ?_
  show W _ _ _ _ _ _ _ _ _ _ _ _ _ _ _ (F0 m 8 ls [])
  refine lv_iconst (v := -1) hx hb dX2_farthestReach_8 (by decide) ?_
  refine lv_istore_n (lv' := [(3, .int (-1)), (0, .ref x), (1, .int u), (2, .int (nI kv))]) hx hb dX2_farthestReach_9 rfl hl (by decide) rfl (fun ls hl => ?_)
  refine lv_iconst (v := 3) hx hb dX2_farthestReach_10 (by decide) ?_
  refine lv_istore (lv' := [(4, .int 3), (3, .int (-1)), (0, .ref x), (1, .int u), (2, .int (nI kv))]) hx hb dX2_farthestReach_11 hl (by decide) rfl (fun ls hl => ?_)
  have hl : lv_has ls 5 [(4, .int (nI 3)), (3, .int (-1)), (0, .ref x), (1, .int u), (2, .int (nI kv))] := (show 3 = nI 3 from rfl) ▸ hl
  have hl : lv_has ls 5 [(4, .int (nI 3)), (3, .int (faI 3)), (0, .ref x), (1, .int u), (2, .int (nI kv))] := (show (-1) = faI 3 from rfl) ▸ hl
  exact loop 28 3 _ (by omega) (by omega) rfl (lv_sub hl [0, 1, 2, 3, 4] rfl)
set_option maxHeartbeats 4000000 in
set_option maxRecDepth 100000 in
/-- platesNeeded, in its ranges -/
theorem k_platesNeeded_ok (l : Launch) (D : va_G) (L0 : Nat) (cI : ClassId) (x rg tr pn ro rl d r : Nat) (ld li tl mo pl : Int32) (fo fl : Nat → Int32) (t0 t1 : Nat) (jp : Int32) (jo jl : Nat → Int32) (u : Int32) (hu : 0 ≤ u ∧ u ≤ 60) (kv : Nat) (hkv : kv < 8) (kz : Nat) (hkz : 3 ≤ kz ∧ kz ≤ 30) : Met l yX2_platesNeeded wsX2_platesNeeded ({ frames := 3, cells := 0, slots := 0, locals := 71 }) (cP L0 D [(cI, .int)] [(x, .inr (2, [.ref rg, .ref tr, .ref pn, .int (nI d), .int (nI r), .int ld, .int li, .int tl, .int mo])), (rg, .inr (1, [.ref ro, .ref rl, .int pl])), (ro, .inl (cI, 4, .inl fo)), (rl, .inl (cI, 28, .inl (sh fl))), (tr, .inr (1, [.ref t0, .ref t1, .int jp])), (t0, .inl (cI, 4, .inl jo)), (t1, .inl (cI, 28, .inl jl))] [.ref x, .int u, .int (nI kv), .int (nI kz)]) (cB (some (.int (pnN (fun k => safS fo fl (nI k) u kv kz) 13 0))) (fun H => ∃ (p9 : Int32) (o9 l9 : Nat → Int32), va_P D vwCl [(x, .inr (2, [.ref rg, .ref tr, .ref pn, .int (nI d), .int (nI r), .int ld, .int li, .int tl, .int mo])), (rg, .inr (1, [.ref ro, .ref rl, .int pl])), (ro, .inl (cI, 4, .inl fo)), (rl, .inl (cI, 28, .inl (sh fl))), (tr, .inr (1, [.ref t0, .ref t1, .int p9])), (t0, .inl (cI, 4, .inl o9)), (t1, .inl (cI, 28, .inl l9))] H) (cA [(x, .inr (2, [.ref rg, .ref tr, .ref pn, .int (nI d), .int (nI r), .int ld, .int li, .int tl, .int mo])), (rg, .inr (1, [.ref ro, .ref rl, .int pl])), (ro, .inl (cI, 4, .inl fo)), (rl, .inl (cI, 28, .inl (sh fl))), (tr, .inr (1, [.ref t0, .ref t1, .int jp])), (t0, .inl (cI, 4, .inl jo)), (t1, .inl (cI, 28, .inl jl))])) 0 0 (cA [(x, .inr (2, [.ref rg, .ref tr, .ref pn, .int (nI d), .int (nI r), .int ld, .int li, .int tl, .int mo])), (rg, .inr (1, [.ref ro, .ref rl, .int pl])), (ro, .inl (cI, 4, .inl fo)), (rl, .inl (cI, 28, .inl (sh fl))), (tr, .inr (1, [.ref t0, .ref t1, .int jp])), (t0, .inl (cI, 4, .inl jo)), (t1, .inl (cI, 28, .inl jl))]) := by
  refine Met.ofW (cc := cX2_platesNeeded) (maxL := 5) (ret := (some .int)) (by decide) rfl ?_
  intro p e s m args below meth c s₁ B hml hv
  obtain ⟨rfl, hP, hK, hD0, hE0⟩ := hv
  have hx := B.exec
  have hb := B.bytes
  have hRt := B.returns
  have hts := atoms_spec (ws := wsX2_platesNeeded) B.pre
  have hown : s.vm.findClass RX2 = some m.cls := findClass_of_methodNamed B.named
  have hlocks := B.notSynchronized
  have hAL : ∀ z9 : Nat, cA [(x, .inr (2, [.ref rg, .ref tr, .ref pn, .int (nI d), .int (nI r), .int ld, .int li, .int tl, .int mo])), (rg, .inr (1, [.ref ro, .ref rl, .int pl])), (ro, .inl (cI, 4, .inl fo)), (rl, .inl (cI, 28, .inl (sh fl))), (tr, .inr (1, [.ref t0, .ref t1, .int jp])), (t0, .inl (cI, 4, .inl jo)), (t1, .inl (cI, 28, .inl jl))] z9 → L0 ≤ z9 := fun z9 ⟨k9, e9, h9⟩ => hD0.2 k9 (z9, e9) h9
  have hD : va_D (cA [(x, .inr (2, [.ref rg, .ref tr, .ref pn, .int (nI d), .int (nI r), .int ld, .int li, .int tl, .int mo])), (rg, .inr (1, [.ref ro, .ref rl, .int pl])), (ro, .inl (cI, 4, .inl fo)), (rl, .inl (cI, 28, .inl (sh fl))), (tr, .inr (1, [.ref t0, .ref t1, .int jp])), (t0, .inl (cI, 4, .inl jo)), (t1, .inl (cI, 28, .inl jl))]) [(x, .inr (2, [.ref rg, .ref tr, .ref pn, .int (nI d), .int (nI r), .int ld, .int li, .int tl, .int mo])), (rg, .inr (1, [.ref ro, .ref rl, .int pl])), (ro, .inl (cI, 4, .inl fo)), (rl, .inl (cI, 28, .inl (sh fl))), (tr, .inr (1, [.ref t0, .ref t1, .int jp])), (t0, .inl (cI, 4, .inl jo)), (t1, .inl (cI, 28, .inl jl))] := ⟨hD0.1, fun k9 z9 h9 => cA_of h9⟩
  generalize hAe : cA [(x, .inr (2, [.ref rg, .ref tr, .ref pn, .int (nI d), .int (nI r), .int ld, .int li, .int tl, .int mo])), (rg, .inr (1, [.ref ro, .ref rl, .int pl])), (ro, .inl (cI, 4, .inl fo)), (rl, .inl (cI, 28, .inl (sh fl))), (tr, .inr (1, [.ref t0, .ref t1, .int jp])), (t0, .inl (cI, 4, .inl jo)), (t1, .inl (cI, 28, .inl jl))] = A at hD hAL ⊢
  have hS : va_S A s.heap s.heap [] := va_S.rf
  have hiX2 : ∀ w ∈ u_ws RX2 TX2 9, w ∈ wsX2_platesNeeded := by decide +kernel
  have hiX1 : ∀ w ∈ u_ws RX1 TX1 3, w ∈ wsX2_platesNeeded := by decide +kernel
  have hl := lv_entry ([.ref x, .int u, .int (nI kv), .int (nI kz)]) (n := 5) (Nat.le_of_ble_eq_true rfl)
  rw [lg_entry_eq]
  generalize (lg_sl ([.ref x, .int u, .int (nI kv), .int (nI kz)]) ++ List.replicate (5 - (lg_sl ([.ref x, .int u, .int (nI kv), .int (nI kz)])).length) Slot.unset).toArray = ls at hl ⊢
  have hl : lv_has ls 5 [(0, .ref x), (1, .int u), (2, .int (nI kv)), (3, .int (nI kz))] := hl
  have loop : ∀ (n : Nat) (i : Nat) (tp : Int32) (H : Heap) (locs : List Loc) (ls : Array Slot), i + n = 13 → pnN (fun k => safS fo fl (nI k) u kv kz) n i = pnN (fun k => safS fo fl (nI k) u kv kz) 13 0 → lv_has ls 5 [(4, .int (nI i)), (0, .ref x), (1, .int u), (2, .int (nI kv)), (3, .int (nI kz))] → va_P D vwCl [(x, .inr (2, [.ref rg, .ref tr, .ref pn, .int (nI d), .int (nI r), .int ld, .int li, .int tl, .int mo])), (rg, .inr (1, [.ref ro, .ref rl, .int pl])), (ro, .inl (cI, 4, .inl fo)), (rl, .inl (cI, 28, .inl (sh fl))), (tr, .inr (1, [.ref t0, .ref t1, .int tp])), (t0, .inl (cI, 4, .inl fo)), (t1, .inl (cI, 28, .inl (sh fl)))] H → va_D A [(x, .inr (2, [.ref rg, .ref tr, .ref pn, .int (nI d), .int (nI r), .int ld, .int li, .int tl, .int mo])), (rg, .inr (1, [.ref ro, .ref rl, .int pl])), (ro, .inl (cI, 4, .inl fo)), (rl, .inl (cI, 28, .inl (sh fl))), (tr, .inr (1, [.ref t0, .ref t1, .int tp])), (t0, .inl (cI, 4, .inl fo)), (t1, .inl (cI, 28, .inl (sh fl)))] → va_S A s.heap H locs → W p l e (headSpec wsX2_platesNeeded ({ frames := 3, cells := 0, slots := 0, locals := 71 })).room s m ([.ref x, .int u, .int (nI kv), .int (nI kz)]).toArray below meth c H locs 0 0 (MQ below (cB (some (.int (pnN (fun k => safS fo fl (nI k) u kv kz) 13 0))) (fun H => ∃ (p9 : Int32) (o9 l9 : Nat → Int32), va_P D vwCl [(x, .inr (2, [.ref rg, .ref tr, .ref pn, .int (nI d), .int (nI r), .int ld, .int li, .int tl, .int mo])), (rg, .inr (1, [.ref ro, .ref rl, .int pl])), (ro, .inl (cI, 4, .inl fo)), (rl, .inl (cI, 28, .inl (sh fl))), (tr, .inr (1, [.ref t0, .ref t1, .int p9])), (t0, .inl (cI, 4, .inl o9)), (t1, .inl (cI, 28, .inl l9))] H) A) ([.ref x, .int u, .int (nI kv), .int (nI kz)]).toArray s 0 0 A) (F0 m 26 ls []) := by
    intro n
    induction n with
    | zero =>
      intro i tp H locs ls hn hG hl hP hD hS
      have hi : i = 13 := by omega
      rw [hi] at hl hG
      refine lv_iload hx hb dX2_platesNeeded_26 (lv_at hl 0 rfl) ?_
      refine lv_bipush (v := 12) hx hb dX2_platesNeeded_28 (by decide) ?_
      refine lv_icmp_gt (tgt := 64) hx hb dX2_platesNeeded_30 (by decide) (fun _ => ?_) (fun c_8 => absurd (by decide) c_8)
      refine lv_iconst (v := -1) hx hb dX2_platesNeeded_64 (by decide) ?_
      exact W.iret (v := (-1)) hx hb hRt (fun t ht hW => ⟨⟨by rw [← hG]; rfl, by rw [ht]; exact ⟨_, _, _, hP⟩⟩, hS.F ht⟩) hS.2.2 dX2_platesNeeded_65
    | succ n ih =>
      intro i tp H locs ls hn hG hl hP hD hS
      refine lv_iload hx hb dX2_platesNeeded_26 (lv_at hl 0 rfl) ?_
      refine lv_bipush (v := 12) hx hb dX2_platesNeeded_28 (by decide) ?_
      refine lv_icmp_gt (tgt := 64) hx hb dX2_platesNeeded_30 (by decide) (fun c_9 => absurd c_9 (Int32.not_lt.mpr (nI_le (b := 12) (by omega) (by decide)))) (fun _ => ?_)
      refine lv_aload_n hx hb dX2_platesNeeded_33 rfl (lv_at hl 1 rfl) ?_
      refine va_get (D := D) (ci := 2) (v := .ref tr) (C := RX2) (T := TX2) (N := 9) hx hb hts hiX2 hown hK hP 0 rfl rfl 1 (by decide) (hts (.fieldLink RX2 16 "CraneReach" "trial" "LCraneReach$Rig;") (by decide +kernel)) (fun _ h9 => h9) rfl dX2_platesNeeded_34 ?_
      refine lv_iload hx hb dX2_platesNeeded_37 (lv_at hl 0 rfl) ?_
      refine va_put (D := D) (ci := 1) (v := .int (nI i)) (ty := .int) (C := RX1) (T := TX1) (N := 3) hx hb hts hiX1 tyX1 tyX1_ok nmX1 hown hK hP hD hS 4 rfl rfl 2 (by decide) (hts (.fieldLink RX2 45 "CraneReach$Rig" "plates" "I") (by decide +kernel)) (fun _ h9 => h9) rfl (by decide +kernel) rfl rfl (Nat.le_of_ble_eq_true rfl) dX2_platesNeeded_39 (fun H locs hP hD hS => ?_)
      have hP : va_P D vwCl [(x, .inr (2, [.ref rg, .ref tr, .ref pn, .int (nI d), .int (nI r), .int ld, .int li, .int tl, .int mo])), (rg, .inr (1, [.ref ro, .ref rl, .int pl])), (ro, .inl (cI, 4, .inl fo)), (rl, .inl (cI, 28, .inl (sh fl))), (tr, .inr (1, [.ref t0, .ref t1, .int (nI i)])), (t0, .inl (cI, 4, .inl fo)), (t1, .inl (cI, 28, .inl (sh fl)))] H := hP
      have hD : va_D A [(x, .inr (2, [.ref rg, .ref tr, .ref pn, .int (nI d), .int (nI r), .int ld, .int li, .int tl, .int mo])), (rg, .inr (1, [.ref ro, .ref rl, .int pl])), (ro, .inl (cI, 4, .inl fo)), (rl, .inl (cI, 28, .inl (sh fl))), (tr, .inr (1, [.ref t0, .ref t1, .int (nI i)])), (t0, .inl (cI, 4, .inl fo)), (t1, .inl (cI, 28, .inl (sh fl)))] := hD
      refine lv_aload_n hx hb dX2_platesNeeded_42 rfl (lv_at hl 1 rfl) ?_
      refine va_get (D := D) (ci := 2) (v := .ref tr) (C := RX2) (T := TX2) (N := 9) hx hb hts hiX2 hown hK hP 0 rfl rfl 1 (by decide) (hts (.fieldLink RX2 16 "CraneReach" "trial" "LCraneReach$Rig;") (by decide +kernel)) (fun _ h9 => h9) rfl dX2_platesNeeded_43 ?_
      refine lv_iload_n hx hb dX2_platesNeeded_46 rfl (lv_at hl 2 rfl) ?_
      refine lv_iload_n hx hb dX2_platesNeeded_47 rfl (lv_at hl 3 rfl) ?_
      refine lv_iload_n hx hb dX2_platesNeeded_48 rfl (lv_at hl 4 rfl) ?_
      have hPc := hP.sub (ws' := [(tr, .inr (1, [.ref t0, .ref t1, .int (nI i)])), (t0, .inl (cI, 4, .inl fo)), (t1, .inl (cI, 28, .inl (sh fl)))]) [4, 5, 6] rfl
      have hDc : va_D (fun q : Nat => L0 ≤ q) [(tr, .inr (1, [.ref t0, .ref t1, .int (nI i)])), (t0, .inl (cI, 4, .inl fo)), (t1, .inl (cI, 28, .inl (sh fl)))] := (hD.sub (ws' := [(tr, .inr (1, [.ref t0, .ref t1, .int (nI i)])), (t0, .inl (cI, 4, .inl fo)), (t1, .inl (cI, 28, .inl (sh fl)))]) [4, 5, 6] (by decide) rfl).weaken (fun _ z9 _ h9 => hAL _ h9)
      have hKc := hK.sub (tys' := [(cI, .int)]) [0] rfl
      refine c_callR (va_runV (As := [.int u, .int (nI kv), .int (nI kz)]) (rest := []) ⟨hx, hb, hml, hown, hts⟩ (k_isSafe l D L0 cI tr t0 t1 (nI i) fo fl kv kz u hkv hkz) (cwV 3 hts gX2_platesNeeded_X1_isSafe rfl rfl rfl (by decide +kernel) ⟨Nat.le_of_ble_eq_true rfl, Nat.le_of_ble_eq_true rfl⟩) ⟨cP_blind, va_recv hKc hPc (ci := 1) (q0 := 0) rfl rfl, cP_of hPc hKc hDc (kE_at hE0 hAL hS)⟩ rfl rfl hl.1 rfl (lv_room (Nat.le_of_ble_eq_true rfl)) dX2_platesNeeded_49 ⟨Nat.le_of_ble_eq_true rfl, Nat.le_of_ble_eq_true rfl⟩) ?_
      show W _ _ _ _ _ _ _ _ _ _ _ _ _ _ _ (F0 m 52 ls [.int (bI (safS fo fl (nI i) u kv kz))])
      obtain ⟨b_10, hbv_11⟩ : ∃ z9 : Bool, z9 = safS fo fl (nI i) u kv kz := ⟨_, rfl⟩
      refine c_top (show (bI (safS fo fl (nI i) u kv kz)) = bI b_10 from by rw [hbv_11]) ?_
      refine lv_if_eq (tgt := 58) hx hb dX2_platesNeeded_52 (by decide) (fun c_12 => ?_) (fun c_12 => ?_)
      · have hs : safS fo fl (nI i) u kv kz = false := by rw [← hbv_11]; cases b_10 with | false => rfl | true => exact absurd c_12 (by decide)
        refine lv_iinc (v := (nI i) + 1) (lv' := [(4, .int ((nI i) + 1)), (0, .ref x), (1, .int u), (2, .int (nI kv)), (3, .int (nI kz))]) hx hb dX2_platesNeeded_58 hl (k := 0) rfl rfl (by decide) rfl (fun ls hl => ?_)
        refine lv_goto (tgt := 26) hx hb dX2_platesNeeded_61 (by decide) ?_
        have hl : lv_has ls 5 [(4, .int (nI (i + 1))), (0, .ref x), (1, .int u), (2, .int (nI kv)), (3, .int (nI kz))] := (show (nI i) + 1 = nI (i + 1) from nI_1 i) ▸ hl
        exact ih (i + 1) _ _ _ _ (by omega) (by rw [← hG, pnN, if_neg (by rw [hs]; decide)]) (lv_sub hl [0, 1, 2, 3, 4] rfl) hP hD hS
      · have hs : safS fo fl (nI i) u kv kz = true := by rw [← hbv_11]; cases b_10 with | true => rfl | false => exact absurd rfl c_12
        refine lv_iload hx hb dX2_platesNeeded_55 (lv_at hl 0 rfl) ?_
        exact W.iret (v := (nI i)) hx hb hRt (fun t ht hW => ⟨⟨by rw [← hG, pnN, if_pos hs], by rw [ht]; exact ⟨_, _, _, hP⟩⟩, hS.F ht⟩) hS.2.2 dX2_platesNeeded_57
  refine lv_iload_n hx hb dX2_platesNeeded_0 rfl (lv_at hl 2 rfl) ?_
  have hPc := hP.sub (ws' := []) [] rfl
  have hDc : va_D (fun q : Nat => L0 ≤ q) [] := (hD.sub (ws' := []) [] (by decide) rfl).weaken (fun _ z9 _ h9 => hAL _ h9)
  have hKc := hK.sub (tys' := []) [] rfl
  refine c_callR (va_runS (As := [.int (nI kv)]) (rest := []) ⟨hx, hb, hml, hown, hts⟩ (k_requireDirection_ok l D L0 (nI kv) ⟨nI_le (a := 0) (Nat.zero_le _) (by omega), nI_le (b := 7) (by omega) (by decide)⟩) (va_cwS 1 hts gX2_platesNeeded_X2_requireDirection rfl rfl rfl (by decide +kernel) ⟨Nat.le_of_ble_eq_true rfl, Nat.le_of_ble_eq_true rfl⟩) ⟨cP_blind, cP_of hPc hKc hDc (kE_at hE0 hAL hS)⟩ rfl rfl hl.1 rfl (lv_room (Nat.le_of_ble_eq_true rfl)) dX2_platesNeeded_1 ⟨Nat.le_of_ble_eq_true rfl, Nat.le_of_ble_eq_true rfl⟩) ?_
  show W _ _ _ _ _ _ _ _ _ _ _ _ _ _ _ (F0 m 4 ls [])
  refine lv_iload_n hx hb dX2_platesNeeded_4 rfl (lv_at hl 1 rfl) ?_
  have hPc := hP.sub (ws' := []) [] rfl
  have hDc : va_D (fun q : Nat => L0 ≤ q) [] := (hD.sub (ws' := []) [] (by decide) rfl).weaken (fun _ z9 _ h9 => hAL _ h9)
  have hKc := hK.sub (tys' := []) [] rfl
  refine c_callR (va_runS (As := [.int u]) (rest := []) ⟨hx, hb, hml, hown, hts⟩ (k_requireLoad_ok l D L0 u hu) (va_cwS 1 hts gX2_platesNeeded_X2_requireLoad rfl rfl rfl (by decide +kernel) ⟨Nat.le_of_ble_eq_true rfl, Nat.le_of_ble_eq_true rfl⟩) ⟨cP_blind, cP_of hPc hKc hDc (kE_at hE0 hAL hS)⟩ rfl rfl hl.1 rfl (lv_room (Nat.le_of_ble_eq_true rfl)) dX2_platesNeeded_5 ⟨Nat.le_of_ble_eq_true rfl, Nat.le_of_ble_eq_true rfl⟩) ?_
  show W _ _ _ _ _ _ _ _ _ _ _ _ _ _ _ (F0 m 8 ls [])
  refine lv_iload_n hx hb dX2_platesNeeded_8 rfl (lv_at hl 3 rfl) ?_
  have hPc := hP.sub (ws' := []) [] rfl
  have hDc : va_D (fun q : Nat => L0 ≤ q) [] := (hD.sub (ws' := []) [] (by decide) rfl).weaken (fun _ z9 _ h9 => hAL _ h9)
  have hKc := hK.sub (tys' := []) [] rfl
  refine c_callR (va_runS (As := [.int (nI kz)]) (rest := []) ⟨hx, hb, hml, hown, hts⟩ (k_requireReach_ok l D L0 (nI kz) ⟨nI_le (a := 3) hkz.1 (by omega), nI_le (b := 30) hkz.2 (by decide)⟩) (va_cwS 1 hts gX2_platesNeeded_X2_requireReach rfl rfl rfl (by decide +kernel) ⟨Nat.le_of_ble_eq_true rfl, Nat.le_of_ble_eq_true rfl⟩) ⟨cP_blind, cP_of hPc hKc hDc (kE_at hE0 hAL hS)⟩ rfl rfl hl.1 rfl (lv_room (Nat.le_of_ble_eq_true rfl)) dX2_platesNeeded_9 ⟨Nat.le_of_ble_eq_true rfl, Nat.le_of_ble_eq_true rfl⟩) ?_
  show W _ _ _ _ _ _ _ _ _ _ _ _ _ _ _ (F0 m 12 ls [])
  refine lv_aload_n hx hb dX2_platesNeeded_12 rfl (lv_at hl 0 rfl) ?_
  refine va_get (D := D) (ci := 2) (v := .ref tr) (C := RX2) (T := TX2) (N := 9) hx hb hts hiX2 hown hK hP 0 rfl rfl 1 (by decide) (hts (.fieldLink RX2 16 "CraneReach" "trial" "LCraneReach$Rig;") (by decide +kernel)) (fun _ h9 => h9) rfl dX2_platesNeeded_13 ?_
  refine lv_aload_n hx hb dX2_platesNeeded_16 rfl (lv_at hl 0 rfl) ?_
  refine va_get (D := D) (ci := 2) (v := .ref rg) (C := RX2) (T := TX2) (N := 9) hx hb hts hiX2 hown hK hP 0 rfl rfl 0 (by decide) (hts (.fieldLink RX2 12 "CraneReach" "rig" "LCraneReach$Rig;") (by decide +kernel)) (fun _ h9 => h9) rfl dX2_platesNeeded_17 ?_
  have hPc := hP.sub (ws' := [(tr, .inr (1, [.ref t0, .ref t1, .int jp])), (t0, .inl (cI, 4, .inl jo)), (t1, .inl (cI, 28, .inl jl)), (rg, .inr (1, [.ref ro, .ref rl, .int pl])), (ro, .inl (cI, 4, .inl fo)), (rl, .inl (cI, 28, .inl (sh fl)))]) [4, 5, 6, 1, 2, 3] rfl
  have hDc : va_D (fun q : Nat => L0 ≤ q) [(tr, .inr (1, [.ref t0, .ref t1, .int jp])), (t0, .inl (cI, 4, .inl jo)), (t1, .inl (cI, 28, .inl jl)), (rg, .inr (1, [.ref ro, .ref rl, .int pl])), (ro, .inl (cI, 4, .inl fo)), (rl, .inl (cI, 28, .inl (sh fl)))] := (hD.sub (ws' := [(tr, .inr (1, [.ref t0, .ref t1, .int jp])), (t0, .inl (cI, 4, .inl jo)), (t1, .inl (cI, 28, .inl jl)), (rg, .inr (1, [.ref ro, .ref rl, .int pl])), (ro, .inl (cI, 4, .inl fo)), (rl, .inl (cI, 28, .inl (sh fl)))]) [4, 5, 6, 1, 2, 3] (by decide) rfl).weaken (fun _ z9 _ h9 => hAL _ h9)
  have hKc := hK.sub (tys' := [(cI, .int)]) [0] rfl
  refine c_callB (va_runV (As := [.ref rg]) (rest := []) ⟨hx, hb, hml, hown, hts⟩ (k_becomeLike l D L0 cI tr t0 t1 jp jo jl rg ro rl pl fo fl) (cwV 1 hts gX2_platesNeeded_X1_becomeLike rfl rfl rfl (by decide +kernel) ⟨Nat.le_of_ble_eq_true rfl, Nat.le_of_ble_eq_true rfl⟩) ⟨cP_blind, va_recv hKc hPc (ci := 1) (q0 := 0) rfl rfl, cP_of hPc hKc hDc (kE_at hE0 hAL hS)⟩ rfl rfl hl.1 rfl (lv_room (Nat.le_of_ble_eq_true rfl)) dX2_platesNeeded_20 ⟨Nat.le_of_ble_eq_true rfl, Nat.le_of_ble_eq_true rfl⟩) hS (fun z9 _ ⟨k9, e9, h9⟩ => (hD.sub (ws' := [(tr, .inr (1, [.ref t0, .ref t1, .int jp])), (t0, .inl (cI, 4, .inl jo)), (t1, .inl (cI, 28, .inl jl)), (rg, .inr (1, [.ref ro, .ref rl, .int pl])), (ro, .inl (cI, 4, .inl fo)), (rl, .inl (cI, 28, .inl (sh fl)))]) [4, 5, 6, 1, 2, 3] (by decide) rfl).2 k9 (z9, e9) h9) (fun z9 ⟨k9, e9, h9⟩ => (hD.sub (ws' := [(tr, .inr (1, [.ref t0, .ref t1, .int jp])), (t0, .inl (cI, 4, .inl jo)), (t1, .inl (cI, 28, .inl jl)), (rg, .inr (1, [.ref ro, .ref rl, .int pl])), (ro, .inl (cI, 4, .inl fo)), (rl, .inl (cI, 28, .inl (sh fl)))]) [4, 5, 6, 1, 2, 3] (by decide) rfl).2 k9 (z9, e9) h9) (fun H1 locs hB hz1 hk1 hS => ?_)
  obtain ⟨hP, hD⟩ := c_join (ws' := [(x, .inr (2, [.ref rg, .ref tr, .ref pn, .int (nI d), .int (nI r), .int ld, .int li, .int tl, .int mo])), (rg, .inr (1, [.ref ro, .ref rl, .int pl])), (ro, .inl (cI, 4, .inl fo)), (rl, .inl (cI, 28, .inl (sh fl))), (tr, .inr (1, [.ref t0, .ref t1, .int pl])), (t0, .inl (cI, 4, .inl fo)), (t1, .inl (cI, 28, .inl (sh fl)))]) (wr := [(x, .inr (2, [.ref rg, .ref tr, .ref pn, .int (nI d), .int (nI r), .int ld, .int li, .int tl, .int mo]))]) (w1 := [(tr, .inr (1, [.ref t0, .ref t1, .int pl])), (t0, .inl (cI, 4, .inl fo)), (t1, .inl (cI, 28, .inl (sh fl))), (rg, .inr (1, [.ref ro, .ref rl, .int pl])), (ro, .inl (cI, 4, .inl fo)), (rl, .inl (cI, 28, .inl (sh fl)))]) hP hD [4, 5, 6, 1, 2, 3] [0] [0, 4, 5, 6, 1, 2, 3] rfl rfl (by decide) (by decide) hk1 hB rfl rfl rfl (by decide)
  generalize H1 = H at hP hS ⊢
  show W _ _ _ _ _ _ _ _ _ _ _ _ _ _ _ (F0 m 23 ls [])
  refine lv_iconst (v := 0) hx hb dX2_platesNeeded_23 (by decide) ?_
  refine lv_istore (lv' := [(4, .int 0), (0, .ref x), (1, .int u), (2, .int (nI kv)), (3, .int (nI kz))]) hx hb dX2_platesNeeded_24 hl (by decide) rfl (fun ls hl => ?_)
  have hl : lv_has ls 5 [(4, .int (nI 0)), (0, .ref x), (1, .int u), (2, .int (nI kv)), (3, .int (nI kz))] := (show 0 = nI 0 from rfl) ▸ hl
  exact loop 13 0 _ _ _ _ (by omega) rfl (lv_sub hl [0, 1, 2, 3, 4] rfl) hP hD hS
set_option maxHeartbeats 4000000 in
set_option maxRecDepth 100000 in
/-- fewestMoves, in its ranges -/
theorem k_fewestMoves_ok (l : Launch) (D : va_G) (L0 : Nat) (cI : ClassId) (x rg tr pn ro rl d r : Nat) (ld li tl mo pl : Int32) (fo fl : Nat → Int32) (pm pf : Nat) (jn : Int32) (jm jf : Nat → Int32) (u : Int32) (hu : 0 ≤ u ∧ u ≤ 60) (kv : Nat) (hkv : kv < 8) (kz : Nat) (hkz : 3 ≤ kz ∧ kz ≤ 30) (hd : d < 8) (hr : 3 ≤ r ∧ r ≤ 30) : Met l yX2_fewestMoves wsX2_fewestMoves ({ frames := 6, cells := 0, slots := 0, locals := 148 }) (cP L0 D [(cI, .int)] [(x, .inr (2, [.ref rg, .ref tr, .ref pn, .int (nI d), .int (nI r), .int ld, .int li, .int tl, .int mo])), (rg, .inr (1, [.ref ro, .ref rl, .int pl])), (ro, .inl (cI, 4, .inl fo)), (rl, .inl (cI, 28, .inl (sh fl))), (pn, .inr (0, [.ref pm, .ref pf, .int jn])), (pm, .inl (cI, 224, .inl jm)), (pf, .inl (cI, 224, .inl jf))] [.ref x, .int u, .int (nI kv), .int (nI kz)]) (cB (some (.int ((goS (safS fo fl pl u) d r).1 (8 * kz + kv)))) (fun H => ∃ (n9 : Int32) (m9 f9 : Nat → Int32), va_P D vwCl [(x, .inr (2, [.ref rg, .ref tr, .ref pn, .int (nI d), .int (nI r), .int ld, .int li, .int tl, .int mo])), (rg, .inr (1, [.ref ro, .ref rl, .int pl])), (ro, .inl (cI, 4, .inl fo)), (rl, .inl (cI, 28, .inl (sh fl))), (pn, .inr (0, [.ref pm, .ref pf, .int n9])), (pm, .inl (cI, 224, .inl m9)), (pf, .inl (cI, 224, .inl f9))] H) (cA [(x, .inr (2, [.ref rg, .ref tr, .ref pn, .int (nI d), .int (nI r), .int ld, .int li, .int tl, .int mo])), (rg, .inr (1, [.ref ro, .ref rl, .int pl])), (ro, .inl (cI, 4, .inl fo)), (rl, .inl (cI, 28, .inl (sh fl))), (pn, .inr (0, [.ref pm, .ref pf, .int jn])), (pm, .inl (cI, 224, .inl jm)), (pf, .inl (cI, 224, .inl jf))])) 0 0 (cA [(x, .inr (2, [.ref rg, .ref tr, .ref pn, .int (nI d), .int (nI r), .int ld, .int li, .int tl, .int mo])), (rg, .inr (1, [.ref ro, .ref rl, .int pl])), (ro, .inl (cI, 4, .inl fo)), (rl, .inl (cI, 28, .inl (sh fl))), (pn, .inr (0, [.ref pm, .ref pf, .int jn])), (pm, .inl (cI, 224, .inl jm)), (pf, .inl (cI, 224, .inl jf))]) := by
  refine Met.ofW (cc := cX2_fewestMoves) (maxL := 4) (ret := (some .int)) (by decide) rfl ?_
  intro p e s m args below meth c s₁ B hml hv
  obtain ⟨rfl, hP, hK, hD0, hE0⟩ := hv
  have hx := B.exec
  have hb := B.bytes
  have hRt := B.returns
  have hts := atoms_spec (ws := wsX2_fewestMoves) B.pre
  have hown : s.vm.findClass RX2 = some m.cls := findClass_of_methodNamed B.named
  have hlocks := B.notSynchronized
  have hAL : ∀ z9 : Nat, cA [(x, .inr (2, [.ref rg, .ref tr, .ref pn, .int (nI d), .int (nI r), .int ld, .int li, .int tl, .int mo])), (rg, .inr (1, [.ref ro, .ref rl, .int pl])), (ro, .inl (cI, 4, .inl fo)), (rl, .inl (cI, 28, .inl (sh fl))), (pn, .inr (0, [.ref pm, .ref pf, .int jn])), (pm, .inl (cI, 224, .inl jm)), (pf, .inl (cI, 224, .inl jf))] z9 → L0 ≤ z9 := fun z9 ⟨k9, e9, h9⟩ => hD0.2 k9 (z9, e9) h9
  have hD : va_D (cA [(x, .inr (2, [.ref rg, .ref tr, .ref pn, .int (nI d), .int (nI r), .int ld, .int li, .int tl, .int mo])), (rg, .inr (1, [.ref ro, .ref rl, .int pl])), (ro, .inl (cI, 4, .inl fo)), (rl, .inl (cI, 28, .inl (sh fl))), (pn, .inr (0, [.ref pm, .ref pf, .int jn])), (pm, .inl (cI, 224, .inl jm)), (pf, .inl (cI, 224, .inl jf))]) [(x, .inr (2, [.ref rg, .ref tr, .ref pn, .int (nI d), .int (nI r), .int ld, .int li, .int tl, .int mo])), (rg, .inr (1, [.ref ro, .ref rl, .int pl])), (ro, .inl (cI, 4, .inl fo)), (rl, .inl (cI, 28, .inl (sh fl))), (pn, .inr (0, [.ref pm, .ref pf, .int jn])), (pm, .inl (cI, 224, .inl jm)), (pf, .inl (cI, 224, .inl jf))] := ⟨hD0.1, fun k9 z9 h9 => cA_of h9⟩
  generalize hAe : cA [(x, .inr (2, [.ref rg, .ref tr, .ref pn, .int (nI d), .int (nI r), .int ld, .int li, .int tl, .int mo])), (rg, .inr (1, [.ref ro, .ref rl, .int pl])), (ro, .inl (cI, 4, .inl fo)), (rl, .inl (cI, 28, .inl (sh fl))), (pn, .inr (0, [.ref pm, .ref pf, .int jn])), (pm, .inl (cI, 224, .inl jm)), (pf, .inl (cI, 224, .inl jf))] = A at hD hAL ⊢
  have hS : va_S A s.heap s.heap [] := va_S.rf
  have hiX2 : ∀ w ∈ u_ws RX2 TX2 9, w ∈ wsX2_fewestMoves := by decide +kernel
  have hl := lv_entry ([.ref x, .int u, .int (nI kv), .int (nI kz)]) (n := 4) (Nat.le_of_ble_eq_true rfl)
  rw [lg_entry_eq]
  generalize (lg_sl ([.ref x, .int u, .int (nI kv), .int (nI kz)]) ++ List.replicate (4 - (lg_sl ([.ref x, .int u, .int (nI kv), .int (nI kz)])).length) Slot.unset).toArray = ls at hl ⊢
  have hl : lv_has ls 4 [(0, .ref x), (1, .int u), (2, .int (nI kv)), (3, .int (nI kz))] := hl
  refine lv_iload_n hx hb dX2_fewestMoves_0 rfl (lv_at hl 2 rfl) ?_
  have hPc := hP.sub (ws' := []) [] rfl
  have hDc : va_D (fun q : Nat => L0 ≤ q) [] := (hD.sub (ws' := []) [] (by decide) rfl).weaken (fun _ z9 _ h9 => hAL _ h9)
  have hKc := hK.sub (tys' := []) [] rfl
  refine c_callR (va_runS (As := [.int (nI kv)]) (rest := []) ⟨hx, hb, hml, hown, hts⟩ (k_requireDirection_ok l D L0 (nI kv) ⟨nI_le (a := 0) (Nat.zero_le _) (by omega), nI_le (b := 7) (by omega) (by decide)⟩) (va_cwS 1 hts gX2_fewestMoves_X2_requireDirection rfl rfl rfl (by decide +kernel) ⟨Nat.le_of_ble_eq_true rfl, Nat.le_of_ble_eq_true rfl⟩) ⟨cP_blind, cP_of hPc hKc hDc (kE_at hE0 hAL hS)⟩ rfl rfl hl.1 rfl (lv_room (Nat.le_of_ble_eq_true rfl)) dX2_fewestMoves_1 ⟨Nat.le_of_ble_eq_true rfl, Nat.le_of_ble_eq_true rfl⟩) ?_
  show W _ _ _ _ _ _ _ _ _ _ _ _ _ _ _ (F0 m 4 ls [])
  refine lv_iload_n hx hb dX2_fewestMoves_4 rfl (lv_at hl 1 rfl) ?_
  have hPc := hP.sub (ws' := []) [] rfl
  have hDc : va_D (fun q : Nat => L0 ≤ q) [] := (hD.sub (ws' := []) [] (by decide) rfl).weaken (fun _ z9 _ h9 => hAL _ h9)
  have hKc := hK.sub (tys' := []) [] rfl
  refine c_callR (va_runS (As := [.int u]) (rest := []) ⟨hx, hb, hml, hown, hts⟩ (k_requireLoad_ok l D L0 u hu) (va_cwS 1 hts gX2_fewestMoves_X2_requireLoad rfl rfl rfl (by decide +kernel) ⟨Nat.le_of_ble_eq_true rfl, Nat.le_of_ble_eq_true rfl⟩) ⟨cP_blind, cP_of hPc hKc hDc (kE_at hE0 hAL hS)⟩ rfl rfl hl.1 rfl (lv_room (Nat.le_of_ble_eq_true rfl)) dX2_fewestMoves_5 ⟨Nat.le_of_ble_eq_true rfl, Nat.le_of_ble_eq_true rfl⟩) ?_
  show W _ _ _ _ _ _ _ _ _ _ _ _ _ _ _ (F0 m 8 ls [])
  refine lv_iload_n hx hb dX2_fewestMoves_8 rfl (lv_at hl 3 rfl) ?_
  have hPc := hP.sub (ws' := []) [] rfl
  have hDc : va_D (fun q : Nat => L0 ≤ q) [] := (hD.sub (ws' := []) [] (by decide) rfl).weaken (fun _ z9 _ h9 => hAL _ h9)
  have hKc := hK.sub (tys' := []) [] rfl
  refine c_callR (va_runS (As := [.int (nI kz)]) (rest := []) ⟨hx, hb, hml, hown, hts⟩ (k_requireReach_ok l D L0 (nI kz) ⟨nI_le (a := 3) hkz.1 (by omega), nI_le (b := 30) hkz.2 (by decide)⟩) (va_cwS 1 hts gX2_fewestMoves_X2_requireReach rfl rfl rfl (by decide +kernel) ⟨Nat.le_of_ble_eq_true rfl, Nat.le_of_ble_eq_true rfl⟩) ⟨cP_blind, cP_of hPc hKc hDc (kE_at hE0 hAL hS)⟩ rfl rfl hl.1 rfl (lv_room (Nat.le_of_ble_eq_true rfl)) dX2_fewestMoves_9 ⟨Nat.le_of_ble_eq_true rfl, Nat.le_of_ble_eq_true rfl⟩) ?_
  show W _ _ _ _ _ _ _ _ _ _ _ _ _ _ _ (F0 m 12 ls [])
  refine lv_aload_n hx hb dX2_fewestMoves_12 rfl (lv_at hl 0 rfl) ?_
  refine va_get (D := D) (ci := 2) (v := .ref pn) (C := RX2) (T := TX2) (N := 9) hx hb hts hiX2 hown hK hP 0 rfl rfl 2 (by decide) (hts (.fieldLink RX2 22 "CraneReach" "plan" "LCraneReach$Plan;") (by decide +kernel)) (fun _ h9 => h9) rfl dX2_fewestMoves_13 ?_
  refine lv_aload_n hx hb dX2_fewestMoves_16 rfl (lv_at hl 0 rfl) ?_
  refine va_get (D := D) (ci := 2) (v := .ref rg) (C := RX2) (T := TX2) (N := 9) hx hb hts hiX2 hown hK hP 0 rfl rfl 0 (by decide) (hts (.fieldLink RX2 12 "CraneReach" "rig" "LCraneReach$Rig;") (by decide +kernel)) (fun _ h9 => h9) rfl dX2_fewestMoves_17 ?_
  refine lv_iload_n hx hb dX2_fewestMoves_20 rfl (lv_at hl 1 rfl) ?_
  refine lv_aload_n hx hb dX2_fewestMoves_21 rfl (lv_at hl 0 rfl) ?_
  refine va_get (D := D) (ci := 2) (v := .int (nI d)) (C := RX2) (T := TX2) (N := 9) hx hb hts hiX2 hown hK hP 0 rfl rfl 3 (by decide) (hts (.fieldLink RX2 98 "CraneReach" "direction" "I") (by decide +kernel)) (fun _ h9 => h9) rfl dX2_fewestMoves_22 ?_
  refine lv_aload_n hx hb dX2_fewestMoves_25 rfl (lv_at hl 0 rfl) ?_
  refine va_get (D := D) (ci := 2) (v := .int (nI r)) (C := RX2) (T := TX2) (N := 9) hx hb hts hiX2 hown hK hP 0 rfl rfl 4 (by decide) (hts (.fieldLink RX2 26 "CraneReach" "reach" "I") (by decide +kernel)) (fun _ h9 => h9) rfl dX2_fewestMoves_26 ?_
  have hPc := hP.sub (ws' := [(pn, .inr (0, [.ref pm, .ref pf, .int jn])), (pm, .inl (cI, 224, .inl jm)), (pf, .inl (cI, 224, .inl jf)), (rg, .inr (1, [.ref ro, .ref rl, .int pl])), (ro, .inl (cI, 4, .inl fo)), (rl, .inl (cI, 28, .inl (sh fl)))]) [4, 5, 6, 1, 2, 3] rfl
  have hDc : va_D (fun q : Nat => L0 ≤ q) [(pn, .inr (0, [.ref pm, .ref pf, .int jn])), (pm, .inl (cI, 224, .inl jm)), (pf, .inl (cI, 224, .inl jf)), (rg, .inr (1, [.ref ro, .ref rl, .int pl])), (ro, .inl (cI, 4, .inl fo)), (rl, .inl (cI, 28, .inl (sh fl)))] := (hD.sub (ws' := [(pn, .inr (0, [.ref pm, .ref pf, .int jn])), (pm, .inl (cI, 224, .inl jm)), (pf, .inl (cI, 224, .inl jf)), (rg, .inr (1, [.ref ro, .ref rl, .int pl])), (ro, .inl (cI, 4, .inl fo)), (rl, .inl (cI, 28, .inl (sh fl)))]) [4, 5, 6, 1, 2, 3] (by decide) rfl).weaken (fun _ z9 _ h9 => hAL _ h9)
  have hKc := hK.sub (tys' := [(cI, .int)]) [0] rfl
  refine c_callB (va_runV (As := [.ref rg, .int u, .int (nI d), .int (nI r)]) (rest := []) ⟨hx, hb, hml, hown, hts⟩ (k_spread l D L0 cI pn pm pf rg ro rl jn jm jf pl fo fl u d r hd hr) (cwV 4 hts gX2_fewestMoves_X0_spread rfl rfl rfl (by decide +kernel) ⟨Nat.le_of_ble_eq_true rfl, Nat.le_of_ble_eq_true rfl⟩) ⟨cP_blind, va_recv hKc hPc (ci := 0) (q0 := 0) rfl rfl, cP_of hPc hKc hDc (kE_at hE0 hAL hS)⟩ rfl rfl hl.1 rfl (lv_room (Nat.le_of_ble_eq_true rfl)) dX2_fewestMoves_29 ⟨Nat.le_of_ble_eq_true rfl, Nat.le_of_ble_eq_true rfl⟩) hS (fun z9 _ ⟨k9, e9, h9⟩ => (hD.sub (ws' := [(pn, .inr (0, [.ref pm, .ref pf, .int jn])), (pm, .inl (cI, 224, .inl jm)), (pf, .inl (cI, 224, .inl jf)), (rg, .inr (1, [.ref ro, .ref rl, .int pl])), (ro, .inl (cI, 4, .inl fo)), (rl, .inl (cI, 28, .inl (sh fl)))]) [4, 5, 6, 1, 2, 3] (by decide) rfl).2 k9 (z9, e9) h9) (fun z9 ⟨k9, e9, h9⟩ => (hD.sub (ws' := [(pn, .inr (0, [.ref pm, .ref pf, .int jn])), (pm, .inl (cI, 224, .inl jm)), (pf, .inl (cI, 224, .inl jf)), (rg, .inr (1, [.ref ro, .ref rl, .int pl])), (ro, .inl (cI, 4, .inl fo)), (rl, .inl (cI, 28, .inl (sh fl)))]) [4, 5, 6, 1, 2, 3] (by decide) rfl).2 k9 (z9, e9) h9) (fun H1 locs hB hz1 hk1 hS => ?_)
  obtain ⟨fm9, ff9, hC, hB⟩ := hB
  obtain ⟨hP, hD⟩ := c_join (ws' := [(x, .inr (2, [.ref rg, .ref tr, .ref pn, .int (nI d), .int (nI r), .int ld, .int li, .int tl, .int mo])), (rg, .inr (1, [.ref ro, .ref rl, .int pl])), (ro, .inl (cI, 4, .inl fo)), (rl, .inl (cI, 28, .inl (sh fl))), (pn, .inr (0, [.ref pm, .ref pf, .int (nI (goS (safS fo fl pl u) d r).2.2)])), (pm, .inl (cI, 224, .inl fm9)), (pf, .inl (cI, 224, .inl ff9))]) (wr := [(x, .inr (2, [.ref rg, .ref tr, .ref pn, .int (nI d), .int (nI r), .int ld, .int li, .int tl, .int mo]))]) (w1 := [(pn, .inr (0, [.ref pm, .ref pf, .int (nI (goS (safS fo fl pl u) d r).2.2)])), (pm, .inl (cI, 224, .inl fm9)), (pf, .inl (cI, 224, .inl ff9)), (rg, .inr (1, [.ref ro, .ref rl, .int pl])), (ro, .inl (cI, 4, .inl fo)), (rl, .inl (cI, 28, .inl (sh fl)))]) hP hD [4, 5, 6, 1, 2, 3] [0] [0, 4, 5, 6, 1, 2, 3] rfl rfl (by decide) (by decide) hk1 hB rfl rfl rfl (by decide)
  generalize H1 = H at hP hS ⊢
  show W _ _ _ _ _ _ _ _ _ _ _ _ _ _ _ (F0 m 32 ls [.int (nI (goS (safS fo fl pl u) d r).2.2)])
  refine lv_pop hx hb dX2_fewestMoves_32 rfl ?_
  refine lv_aload_n hx hb dX2_fewestMoves_33 rfl (lv_at hl 0 rfl) ?_
  refine va_get (D := D) (ci := 2) (v := .ref pn) (C := RX2) (T := TX2) (N := 9) hx hb hts hiX2 hown hK hP 0 rfl rfl 2 (by decide) (hts (.fieldLink RX2 22 "CraneReach" "plan" "LCraneReach$Plan;") (by decide +kernel)) (fun _ h9 => h9) rfl dX2_fewestMoves_34 ?_
  refine lv_iload_n hx hb dX2_fewestMoves_37 rfl (lv_at hl 2 rfl) ?_
  refine lv_iload_n hx hb dX2_fewestMoves_38 rfl (lv_at hl 3 rfl) ?_
  have hPc := hP.sub (ws' := [(pn, .inr (0, [.ref pm, .ref pf, .int (nI (goS (safS fo fl pl u) d r).2.2)])), (pm, .inl (cI, 224, .inl fm9)), (pf, .inl (cI, 224, .inl ff9))]) [4, 5, 6] rfl
  have hDc : va_D (fun q : Nat => L0 ≤ q) [(pn, .inr (0, [.ref pm, .ref pf, .int (nI (goS (safS fo fl pl u) d r).2.2)])), (pm, .inl (cI, 224, .inl fm9)), (pf, .inl (cI, 224, .inl ff9))] := (hD.sub (ws' := [(pn, .inr (0, [.ref pm, .ref pf, .int (nI (goS (safS fo fl pl u) d r).2.2)])), (pm, .inl (cI, 224, .inl fm9)), (pf, .inl (cI, 224, .inl ff9))]) [4, 5, 6] (by decide) rfl).weaken (fun _ z9 _ h9 => hAL _ h9)
  have hKc := hK.sub (tys' := [(cI, .int)]) [0] rfl
  refine c_callR (va_runV (As := [.int (nI kv), .int (nI kz)]) (rest := []) ⟨hx, hb, hml, hown, hts⟩ (k_movesTo l D L0 cI pn pm pf (nI (goS (safS fo fl pl u) d r).2.2) fm9 ff9 kv kz hkv hkz) (cwV 2 hts gX2_fewestMoves_X0_movesTo rfl rfl rfl (by decide +kernel) ⟨Nat.le_of_ble_eq_true rfl, Nat.le_of_ble_eq_true rfl⟩) ⟨cP_blind, va_recv hKc hPc (ci := 0) (q0 := 0) rfl rfl, cP_of hPc hKc hDc (kE_at hE0 hAL hS)⟩ rfl rfl hl.1 rfl (lv_room (Nat.le_of_ble_eq_true rfl)) dX2_fewestMoves_39 ⟨Nat.le_of_ble_eq_true rfl, Nat.le_of_ble_eq_true rfl⟩) ?_
  show W _ _ _ _ _ _ _ _ _ _ _ _ _ _ _ (F0 m 42 ls [.int (fm9 (plc kv kz))])
  refine c_top (show (fm9 (plc kv kz)) = (goS (safS fo fl pl u) d r).1 (8 * kz + kv) from hC.1 kv kz hkv hkz.1 hkz.2) ?_
  exact W.iret (v := ((goS (safS fo fl pl u) d r).1 (8 * kz + kv))) hx hb hRt (fun t ht hW => ⟨⟨rfl, by rw [ht]; exact ⟨_, _, _, hP⟩⟩, hS.F ht⟩) hS.2.2 dX2_fewestMoves_42
set_option maxHeartbeats 4000000 in
set_option maxRecDepth 100000 in
/-- placesWithin, in its range -/
theorem k_placesWithin_ok (l : Launch) (D : va_G) (L0 : Nat) (cI : ClassId) (x rg tr pn ro rl d r : Nat) (ld li tl mo pl : Int32) (fo fl : Nat → Int32) (pm pf : Nat) (jn : Int32) (jm jf : Nat → Int32) (u : Int32) (hu : 0 ≤ u ∧ u ≤ 60) (hd : d < 8) (hr : 3 ≤ r ∧ r ≤ 30) : Met l yX2_placesWithin wsX2_placesWithin ({ frames := 6, cells := 0, slots := 0, locals := 148 }) (cP L0 D [(cI, .int)] [(x, .inr (2, [.ref rg, .ref tr, .ref pn, .int (nI d), .int (nI r), .int ld, .int li, .int tl, .int mo])), (rg, .inr (1, [.ref ro, .ref rl, .int pl])), (ro, .inl (cI, 4, .inl fo)), (rl, .inl (cI, 28, .inl (sh fl))), (pn, .inr (0, [.ref pm, .ref pf, .int jn])), (pm, .inl (cI, 224, .inl jm)), (pf, .inl (cI, 224, .inl jf))] [.ref x, .int u]) (cB (some (.int (nI (goS (safS fo fl pl u) d r).2.2))) (fun H => ∃ (n9 : Int32) (m9 f9 : Nat → Int32), va_P D vwCl [(x, .inr (2, [.ref rg, .ref tr, .ref pn, .int (nI d), .int (nI r), .int ld, .int li, .int tl, .int mo])), (rg, .inr (1, [.ref ro, .ref rl, .int pl])), (ro, .inl (cI, 4, .inl fo)), (rl, .inl (cI, 28, .inl (sh fl))), (pn, .inr (0, [.ref pm, .ref pf, .int n9])), (pm, .inl (cI, 224, .inl m9)), (pf, .inl (cI, 224, .inl f9))] H) (cA [(x, .inr (2, [.ref rg, .ref tr, .ref pn, .int (nI d), .int (nI r), .int ld, .int li, .int tl, .int mo])), (rg, .inr (1, [.ref ro, .ref rl, .int pl])), (ro, .inl (cI, 4, .inl fo)), (rl, .inl (cI, 28, .inl (sh fl))), (pn, .inr (0, [.ref pm, .ref pf, .int jn])), (pm, .inl (cI, 224, .inl jm)), (pf, .inl (cI, 224, .inl jf))])) 0 0 (cA [(x, .inr (2, [.ref rg, .ref tr, .ref pn, .int (nI d), .int (nI r), .int ld, .int li, .int tl, .int mo])), (rg, .inr (1, [.ref ro, .ref rl, .int pl])), (ro, .inl (cI, 4, .inl fo)), (rl, .inl (cI, 28, .inl (sh fl))), (pn, .inr (0, [.ref pm, .ref pf, .int jn])), (pm, .inl (cI, 224, .inl jm)), (pf, .inl (cI, 224, .inl jf))]) := by
  refine Met.ofW (cc := cX2_placesWithin) (maxL := 2) (ret := (some .int)) (by decide) rfl ?_
  intro p e s m args below meth c s₁ B hml hv
  obtain ⟨rfl, hP, hK, hD0, hE0⟩ := hv
  have hx := B.exec
  have hb := B.bytes
  have hRt := B.returns
  have hts := atoms_spec (ws := wsX2_placesWithin) B.pre
  have hown : s.vm.findClass RX2 = some m.cls := findClass_of_methodNamed B.named
  have hlocks := B.notSynchronized
  have hAL : ∀ z9 : Nat, cA [(x, .inr (2, [.ref rg, .ref tr, .ref pn, .int (nI d), .int (nI r), .int ld, .int li, .int tl, .int mo])), (rg, .inr (1, [.ref ro, .ref rl, .int pl])), (ro, .inl (cI, 4, .inl fo)), (rl, .inl (cI, 28, .inl (sh fl))), (pn, .inr (0, [.ref pm, .ref pf, .int jn])), (pm, .inl (cI, 224, .inl jm)), (pf, .inl (cI, 224, .inl jf))] z9 → L0 ≤ z9 := fun z9 ⟨k9, e9, h9⟩ => hD0.2 k9 (z9, e9) h9
  have hD : va_D (cA [(x, .inr (2, [.ref rg, .ref tr, .ref pn, .int (nI d), .int (nI r), .int ld, .int li, .int tl, .int mo])), (rg, .inr (1, [.ref ro, .ref rl, .int pl])), (ro, .inl (cI, 4, .inl fo)), (rl, .inl (cI, 28, .inl (sh fl))), (pn, .inr (0, [.ref pm, .ref pf, .int jn])), (pm, .inl (cI, 224, .inl jm)), (pf, .inl (cI, 224, .inl jf))]) [(x, .inr (2, [.ref rg, .ref tr, .ref pn, .int (nI d), .int (nI r), .int ld, .int li, .int tl, .int mo])), (rg, .inr (1, [.ref ro, .ref rl, .int pl])), (ro, .inl (cI, 4, .inl fo)), (rl, .inl (cI, 28, .inl (sh fl))), (pn, .inr (0, [.ref pm, .ref pf, .int jn])), (pm, .inl (cI, 224, .inl jm)), (pf, .inl (cI, 224, .inl jf))] := ⟨hD0.1, fun k9 z9 h9 => cA_of h9⟩
  generalize hAe : cA [(x, .inr (2, [.ref rg, .ref tr, .ref pn, .int (nI d), .int (nI r), .int ld, .int li, .int tl, .int mo])), (rg, .inr (1, [.ref ro, .ref rl, .int pl])), (ro, .inl (cI, 4, .inl fo)), (rl, .inl (cI, 28, .inl (sh fl))), (pn, .inr (0, [.ref pm, .ref pf, .int jn])), (pm, .inl (cI, 224, .inl jm)), (pf, .inl (cI, 224, .inl jf))] = A at hD hAL ⊢
  have hS : va_S A s.heap s.heap [] := va_S.rf
  have hiX2 : ∀ w ∈ u_ws RX2 TX2 9, w ∈ wsX2_placesWithin := by decide +kernel
  have hl := lv_entry ([.ref x, .int u]) (n := 2) (Nat.le_of_ble_eq_true rfl)
  rw [lg_entry_eq]
  generalize (lg_sl ([.ref x, .int u]) ++ List.replicate (2 - (lg_sl ([.ref x, .int u])).length) Slot.unset).toArray = ls at hl ⊢
  have hl : lv_has ls 2 [(0, .ref x), (1, .int u)] := hl
  refine lv_iload_n hx hb dX2_placesWithin_0 rfl (lv_at hl 1 rfl) ?_
  have hPc := hP.sub (ws' := []) [] rfl
  have hDc : va_D (fun q : Nat => L0 ≤ q) [] := (hD.sub (ws' := []) [] (by decide) rfl).weaken (fun _ z9 _ h9 => hAL _ h9)
  have hKc := hK.sub (tys' := []) [] rfl
  refine c_callR (va_runS (As := [.int u]) (rest := []) ⟨hx, hb, hml, hown, hts⟩ (k_requireLoad_ok l D L0 u hu) (va_cwS 1 hts gX2_placesWithin_X2_requireLoad rfl rfl rfl (by decide +kernel) ⟨Nat.le_of_ble_eq_true rfl, Nat.le_of_ble_eq_true rfl⟩) ⟨cP_blind, cP_of hPc hKc hDc (kE_at hE0 hAL hS)⟩ rfl rfl hl.1 rfl (lv_room (Nat.le_of_ble_eq_true rfl)) dX2_placesWithin_1 ⟨Nat.le_of_ble_eq_true rfl, Nat.le_of_ble_eq_true rfl⟩) ?_
  show W _ _ _ _ _ _ _ _ _ _ _ _ _ _ _ (F0 m 4 ls [])
  refine lv_aload_n hx hb dX2_placesWithin_4 rfl (lv_at hl 0 rfl) ?_
  refine va_get (D := D) (ci := 2) (v := .ref pn) (C := RX2) (T := TX2) (N := 9) hx hb hts hiX2 hown hK hP 0 rfl rfl 2 (by decide) (hts (.fieldLink RX2 22 "CraneReach" "plan" "LCraneReach$Plan;") (by decide +kernel)) (fun _ h9 => h9) rfl dX2_placesWithin_5 ?_
  refine lv_aload_n hx hb dX2_placesWithin_8 rfl (lv_at hl 0 rfl) ?_
  refine va_get (D := D) (ci := 2) (v := .ref rg) (C := RX2) (T := TX2) (N := 9) hx hb hts hiX2 hown hK hP 0 rfl rfl 0 (by decide) (hts (.fieldLink RX2 12 "CraneReach" "rig" "LCraneReach$Rig;") (by decide +kernel)) (fun _ h9 => h9) rfl dX2_placesWithin_9 ?_
  refine lv_iload_n hx hb dX2_placesWithin_12 rfl (lv_at hl 1 rfl) ?_
  refine lv_aload_n hx hb dX2_placesWithin_13 rfl (lv_at hl 0 rfl) ?_
  refine va_get (D := D) (ci := 2) (v := .int (nI d)) (C := RX2) (T := TX2) (N := 9) hx hb hts hiX2 hown hK hP 0 rfl rfl 3 (by decide) (hts (.fieldLink RX2 98 "CraneReach" "direction" "I") (by decide +kernel)) (fun _ h9 => h9) rfl dX2_placesWithin_14 ?_
  refine lv_aload_n hx hb dX2_placesWithin_17 rfl (lv_at hl 0 rfl) ?_
  refine va_get (D := D) (ci := 2) (v := .int (nI r)) (C := RX2) (T := TX2) (N := 9) hx hb hts hiX2 hown hK hP 0 rfl rfl 4 (by decide) (hts (.fieldLink RX2 26 "CraneReach" "reach" "I") (by decide +kernel)) (fun _ h9 => h9) rfl dX2_placesWithin_18 ?_
  have hPc := hP.sub (ws' := [(pn, .inr (0, [.ref pm, .ref pf, .int jn])), (pm, .inl (cI, 224, .inl jm)), (pf, .inl (cI, 224, .inl jf)), (rg, .inr (1, [.ref ro, .ref rl, .int pl])), (ro, .inl (cI, 4, .inl fo)), (rl, .inl (cI, 28, .inl (sh fl)))]) [4, 5, 6, 1, 2, 3] rfl
  have hDc : va_D (fun q : Nat => L0 ≤ q) [(pn, .inr (0, [.ref pm, .ref pf, .int jn])), (pm, .inl (cI, 224, .inl jm)), (pf, .inl (cI, 224, .inl jf)), (rg, .inr (1, [.ref ro, .ref rl, .int pl])), (ro, .inl (cI, 4, .inl fo)), (rl, .inl (cI, 28, .inl (sh fl)))] := (hD.sub (ws' := [(pn, .inr (0, [.ref pm, .ref pf, .int jn])), (pm, .inl (cI, 224, .inl jm)), (pf, .inl (cI, 224, .inl jf)), (rg, .inr (1, [.ref ro, .ref rl, .int pl])), (ro, .inl (cI, 4, .inl fo)), (rl, .inl (cI, 28, .inl (sh fl)))]) [4, 5, 6, 1, 2, 3] (by decide) rfl).weaken (fun _ z9 _ h9 => hAL _ h9)
  have hKc := hK.sub (tys' := [(cI, .int)]) [0] rfl
  refine c_callB (va_runV (As := [.ref rg, .int u, .int (nI d), .int (nI r)]) (rest := []) ⟨hx, hb, hml, hown, hts⟩ (k_spread l D L0 cI pn pm pf rg ro rl jn jm jf pl fo fl u d r hd hr) (cwV 4 hts gX2_placesWithin_X0_spread rfl rfl rfl (by decide +kernel) ⟨Nat.le_of_ble_eq_true rfl, Nat.le_of_ble_eq_true rfl⟩) ⟨cP_blind, va_recv hKc hPc (ci := 0) (q0 := 0) rfl rfl, cP_of hPc hKc hDc (kE_at hE0 hAL hS)⟩ rfl rfl hl.1 rfl (lv_room (Nat.le_of_ble_eq_true rfl)) dX2_placesWithin_21 ⟨Nat.le_of_ble_eq_true rfl, Nat.le_of_ble_eq_true rfl⟩) hS (fun z9 _ ⟨k9, e9, h9⟩ => (hD.sub (ws' := [(pn, .inr (0, [.ref pm, .ref pf, .int jn])), (pm, .inl (cI, 224, .inl jm)), (pf, .inl (cI, 224, .inl jf)), (rg, .inr (1, [.ref ro, .ref rl, .int pl])), (ro, .inl (cI, 4, .inl fo)), (rl, .inl (cI, 28, .inl (sh fl)))]) [4, 5, 6, 1, 2, 3] (by decide) rfl).2 k9 (z9, e9) h9) (fun z9 ⟨k9, e9, h9⟩ => (hD.sub (ws' := [(pn, .inr (0, [.ref pm, .ref pf, .int jn])), (pm, .inl (cI, 224, .inl jm)), (pf, .inl (cI, 224, .inl jf)), (rg, .inr (1, [.ref ro, .ref rl, .int pl])), (ro, .inl (cI, 4, .inl fo)), (rl, .inl (cI, 28, .inl (sh fl)))]) [4, 5, 6, 1, 2, 3] (by decide) rfl).2 k9 (z9, e9) h9) (fun H1 locs hB hz1 hk1 hS => ?_)
  obtain ⟨fm9, ff9, hC, hB⟩ := hB
  obtain ⟨hP, hD⟩ := c_join (ws' := [(x, .inr (2, [.ref rg, .ref tr, .ref pn, .int (nI d), .int (nI r), .int ld, .int li, .int tl, .int mo])), (rg, .inr (1, [.ref ro, .ref rl, .int pl])), (ro, .inl (cI, 4, .inl fo)), (rl, .inl (cI, 28, .inl (sh fl))), (pn, .inr (0, [.ref pm, .ref pf, .int (nI (goS (safS fo fl pl u) d r).2.2)])), (pm, .inl (cI, 224, .inl fm9)), (pf, .inl (cI, 224, .inl ff9))]) (wr := [(x, .inr (2, [.ref rg, .ref tr, .ref pn, .int (nI d), .int (nI r), .int ld, .int li, .int tl, .int mo]))]) (w1 := [(pn, .inr (0, [.ref pm, .ref pf, .int (nI (goS (safS fo fl pl u) d r).2.2)])), (pm, .inl (cI, 224, .inl fm9)), (pf, .inl (cI, 224, .inl ff9)), (rg, .inr (1, [.ref ro, .ref rl, .int pl])), (ro, .inl (cI, 4, .inl fo)), (rl, .inl (cI, 28, .inl (sh fl)))]) hP hD [4, 5, 6, 1, 2, 3] [0] [0, 4, 5, 6, 1, 2, 3] rfl rfl (by decide) (by decide) hk1 hB rfl rfl rfl (by decide)
  generalize H1 = H at hP hS ⊢
  show W _ _ _ _ _ _ _ _ _ _ _ _ _ _ _ (F0 m 24 ls [.int (nI (goS (safS fo fl pl u) d r).2.2)])
  exact W.iret (v := (nI (goS (safS fo fl pl u) d r).2.2)) hx hb hRt (fun t ht hW => ⟨⟨rfl, by rw [ht]; exact ⟨_, _, _, hP⟩⟩, hS.F ht⟩) hS.2.2 dX2_placesWithin_24
set_option maxHeartbeats 4000000 in
set_option maxRecDepth 100000 in
/-- bestOutrigger, in its range -/
theorem k_bestOutrigger_ok (l : Launch) (D : va_G) (L0 : Nat) (cI : ClassId) (x rg tr pn ro rl d r : Nat) (ld li tl mo pl : Int32) (fo fl : Nat → Int32) (t0 t1 : Nat) (jp : Int32) (jo jl : Nat → Int32) (pm pf : Nat) (jn : Int32) (jm jf : Nat → Int32) (u : Int32) (hu : 0 ≤ u ∧ u ≤ 60) (hd : d < 8) (hr : 3 ≤ r ∧ r ≤ 30) : Met l yX2_bestOutrigger wsX2_bestOutrigger ({ frames := 6, cells := 0, slots := 0, locals := 148 }) (cP L0 D [(cI, .int)] [(x, .inr (2, [.ref rg, .ref tr, .ref pn, .int (nI d), .int (nI r), .int ld, .int li, .int tl, .int mo])), (rg, .inr (1, [.ref ro, .ref rl, .int pl])), (ro, .inl (cI, 4, .inl fo)), (rl, .inl (cI, 28, .inl (sh fl))), (tr, .inr (1, [.ref t0, .ref t1, .int jp])), (t0, .inl (cI, 4, .inl jo)), (t1, .inl (cI, 28, .inl jl)), (pn, .inr (0, [.ref pm, .ref pf, .int jn])), (pm, .inl (cI, 224, .inl jm)), (pf, .inl (cI, 224, .inl jf))] [.ref x, .int u]) (cB (some (.int (boN (canS fo) (ownS fo fl pl u d r) 4).1)) (fun H => ∃ (p9 : Int32) (o9 l9 : Nat → Int32) (n9 : Int32) (m9 f9 : Nat → Int32), va_P D vwCl [(x, .inr (2, [.ref rg, .ref tr, .ref pn, .int (nI d), .int (nI r), .int ld, .int li, .int tl, .int mo])), (rg, .inr (1, [.ref ro, .ref rl, .int pl])), (ro, .inl (cI, 4, .inl fo)), (rl, .inl (cI, 28, .inl (sh fl))), (tr, .inr (1, [.ref t0, .ref t1, .int p9])), (t0, .inl (cI, 4, .inl o9)), (t1, .inl (cI, 28, .inl l9)), (pn, .inr (0, [.ref pm, .ref pf, .int n9])), (pm, .inl (cI, 224, .inl m9)), (pf, .inl (cI, 224, .inl f9))] H) (cA [(x, .inr (2, [.ref rg, .ref tr, .ref pn, .int (nI d), .int (nI r), .int ld, .int li, .int tl, .int mo])), (rg, .inr (1, [.ref ro, .ref rl, .int pl])), (ro, .inl (cI, 4, .inl fo)), (rl, .inl (cI, 28, .inl (sh fl))), (tr, .inr (1, [.ref t0, .ref t1, .int jp])), (t0, .inl (cI, 4, .inl jo)), (t1, .inl (cI, 28, .inl jl)), (pn, .inr (0, [.ref pm, .ref pf, .int jn])), (pm, .inl (cI, 224, .inl jm)), (pf, .inl (cI, 224, .inl jf))])) 0 0 (cA [(x, .inr (2, [.ref rg, .ref tr, .ref pn, .int (nI d), .int (nI r), .int ld, .int li, .int tl, .int mo])), (rg, .inr (1, [.ref ro, .ref rl, .int pl])), (ro, .inl (cI, 4, .inl fo)), (rl, .inl (cI, 28, .inl (sh fl))), (tr, .inr (1, [.ref t0, .ref t1, .int jp])), (t0, .inl (cI, 4, .inl jo)), (t1, .inl (cI, 28, .inl jl)), (pn, .inr (0, [.ref pm, .ref pf, .int jn])), (pm, .inl (cI, 224, .inl jm)), (pf, .inl (cI, 224, .inl jf))]) := by
  refine Met.ofW (cc := cX2_bestOutrigger) (maxL := 7) (ret := (some .int)) (by decide) rfl ?_
  intro p e s m args below meth c s₁ B hml hv
  obtain ⟨rfl, hP, hK, hD0, hE0⟩ := hv
  have hx := B.exec
  have hb := B.bytes
  have hRt := B.returns
  have hts := atoms_spec (ws := wsX2_bestOutrigger) B.pre
  have hown : s.vm.findClass RX2 = some m.cls := findClass_of_methodNamed B.named
  have hlocks := B.notSynchronized
  have hAL : ∀ z9 : Nat, cA [(x, .inr (2, [.ref rg, .ref tr, .ref pn, .int (nI d), .int (nI r), .int ld, .int li, .int tl, .int mo])), (rg, .inr (1, [.ref ro, .ref rl, .int pl])), (ro, .inl (cI, 4, .inl fo)), (rl, .inl (cI, 28, .inl (sh fl))), (tr, .inr (1, [.ref t0, .ref t1, .int jp])), (t0, .inl (cI, 4, .inl jo)), (t1, .inl (cI, 28, .inl jl)), (pn, .inr (0, [.ref pm, .ref pf, .int jn])), (pm, .inl (cI, 224, .inl jm)), (pf, .inl (cI, 224, .inl jf))] z9 → L0 ≤ z9 := fun z9 ⟨k9, e9, h9⟩ => hD0.2 k9 (z9, e9) h9
  have hD : va_D (cA [(x, .inr (2, [.ref rg, .ref tr, .ref pn, .int (nI d), .int (nI r), .int ld, .int li, .int tl, .int mo])), (rg, .inr (1, [.ref ro, .ref rl, .int pl])), (ro, .inl (cI, 4, .inl fo)), (rl, .inl (cI, 28, .inl (sh fl))), (tr, .inr (1, [.ref t0, .ref t1, .int jp])), (t0, .inl (cI, 4, .inl jo)), (t1, .inl (cI, 28, .inl jl)), (pn, .inr (0, [.ref pm, .ref pf, .int jn])), (pm, .inl (cI, 224, .inl jm)), (pf, .inl (cI, 224, .inl jf))]) [(x, .inr (2, [.ref rg, .ref tr, .ref pn, .int (nI d), .int (nI r), .int ld, .int li, .int tl, .int mo])), (rg, .inr (1, [.ref ro, .ref rl, .int pl])), (ro, .inl (cI, 4, .inl fo)), (rl, .inl (cI, 28, .inl (sh fl))), (tr, .inr (1, [.ref t0, .ref t1, .int jp])), (t0, .inl (cI, 4, .inl jo)), (t1, .inl (cI, 28, .inl jl)), (pn, .inr (0, [.ref pm, .ref pf, .int jn])), (pm, .inl (cI, 224, .inl jm)), (pf, .inl (cI, 224, .inl jf))] := ⟨hD0.1, fun k9 z9 h9 => cA_of h9⟩
  generalize hAe : cA [(x, .inr (2, [.ref rg, .ref tr, .ref pn, .int (nI d), .int (nI r), .int ld, .int li, .int tl, .int mo])), (rg, .inr (1, [.ref ro, .ref rl, .int pl])), (ro, .inl (cI, 4, .inl fo)), (rl, .inl (cI, 28, .inl (sh fl))), (tr, .inr (1, [.ref t0, .ref t1, .int jp])), (t0, .inl (cI, 4, .inl jo)), (t1, .inl (cI, 28, .inl jl)), (pn, .inr (0, [.ref pm, .ref pf, .int jn])), (pm, .inl (cI, 224, .inl jm)), (pf, .inl (cI, 224, .inl jf))] = A at hD hAL ⊢
  have hS : va_S A s.heap s.heap [] := va_S.rf
  have hiX2 : ∀ w ∈ u_ws RX2 TX2 9, w ∈ wsX2_bestOutrigger := by decide +kernel
  have hl := lv_entry ([.ref x, .int u]) (n := 7) (Nat.le_of_ble_eq_true rfl)
  rw [lg_entry_eq]
  generalize (lg_sl ([.ref x, .int u]) ++ List.replicate (7 - (lg_sl ([.ref x, .int u])).length) Slot.unset).toArray = ls at hl ⊢
  have hl : lv_has ls 7 [(0, .ref x), (1, .int u)] := hl
  have loop : ∀ (n : Nat) (k : Nat) (tp : Int32) (ta : Nat → Int32) (tb : Nat → Int32) (qn : Int32) (qm : Nat → Int32) (qf : Nat → Int32) (H : Heap) (locs : List Loc) (ls : Array Slot), k + n = 4 → lv_has ls 7 [(4, .int (nI k)), (2, .int ((boN (canS fo) (ownS fo fl pl u d r) k).1)), (3, .int ((boN (canS fo) (ownS fo fl pl u d r) k).2)), (0, .ref x), (1, .int u)] → va_P D vwCl [(x, .inr (2, [.ref rg, .ref tr, .ref pn, .int (nI d), .int (nI r), .int ld, .int li, .int tl, .int mo])), (rg, .inr (1, [.ref ro, .ref rl, .int pl])), (ro, .inl (cI, 4, .inl fo)), (rl, .inl (cI, 28, .inl (sh fl))), (tr, .inr (1, [.ref t0, .ref t1, .int tp])), (t0, .inl (cI, 4, .inl ta)), (t1, .inl (cI, 28, .inl tb)), (pn, .inr (0, [.ref pm, .ref pf, .int qn])), (pm, .inl (cI, 224, .inl qm)), (pf, .inl (cI, 224, .inl qf))] H → va_D A [(x, .inr (2, [.ref rg, .ref tr, .ref pn, .int (nI d), .int (nI r), .int ld, .int li, .int tl, .int mo])), (rg, .inr (1, [.ref ro, .ref rl, .int pl])), (ro, .inl (cI, 4, .inl fo)), (rl, .inl (cI, 28, .inl (sh fl))), (tr, .inr (1, [.ref t0, .ref t1, .int tp])), (t0, .inl (cI, 4, .inl ta)), (t1, .inl (cI, 28, .inl tb)), (pn, .inr (0, [.ref pm, .ref pf, .int qn])), (pm, .inl (cI, 224, .inl qm)), (pf, .inl (cI, 224, .inl qf))] → va_S A s.heap H locs → W p l e (headSpec wsX2_bestOutrigger ({ frames := 6, cells := 0, slots := 0, locals := 148 })).room s m ([.ref x, .int u]).toArray below meth c H locs 0 0 (MQ below (cB (some (.int (boN (canS fo) (ownS fo fl pl u d r) 4).1)) (fun H => ∃ (p9 : Int32) (o9 l9 : Nat → Int32) (n9 : Int32) (m9 f9 : Nat → Int32), va_P D vwCl [(x, .inr (2, [.ref rg, .ref tr, .ref pn, .int (nI d), .int (nI r), .int ld, .int li, .int tl, .int mo])), (rg, .inr (1, [.ref ro, .ref rl, .int pl])), (ro, .inl (cI, 4, .inl fo)), (rl, .inl (cI, 28, .inl (sh fl))), (tr, .inr (1, [.ref t0, .ref t1, .int p9])), (t0, .inl (cI, 4, .inl o9)), (t1, .inl (cI, 28, .inl l9)), (pn, .inr (0, [.ref pm, .ref pf, .int n9])), (pm, .inl (cI, 224, .inl m9)), (pf, .inl (cI, 224, .inl f9))] H) A) ([.ref x, .int u]).toArray s 0 0 A) (F0 m 11 ls []) := by
    intro n
    induction n with
    | zero =>
      intro k tp ta tb qn qm qf H locs ls hn hl hP hD hS
      have hi : k = 4 := by omega
      rw [hi] at hl
      refine lv_iload hx hb dX2_bestOutrigger_11 (lv_at hl 0 rfl) ?_
      refine lv_iconst (v := 4) hx hb dX2_bestOutrigger_13 (by decide) ?_
      refine lv_icmp_ge (tgt := 99) hx hb dX2_bestOutrigger_14 (by decide) (fun _ => ?_) (fun c_13 => absurd (by decide) c_13)
      refine lv_iload_n hx hb dX2_bestOutrigger_99 rfl (lv_at hl 1 rfl) ?_
      exact W.iret (v := ((boN (canS fo) (ownS fo fl pl u d r) 4).1)) hx hb hRt (fun t ht hW => ⟨⟨rfl, by rw [ht]; exact ⟨_, _, _, _, _, _, hP⟩⟩, hS.F ht⟩) hS.2.2 dX2_bestOutrigger_100
    | succ n ih =>
      intro k tp ta tb qn qm qf H locs ls hn hl hP hD hS
      refine lv_iload hx hb dX2_bestOutrigger_11 (lv_at hl 0 rfl) ?_
      refine lv_iconst (v := 4) hx hb dX2_bestOutrigger_13 (by decide) ?_
      refine lv_icmp_ge (tgt := 99) hx hb dX2_bestOutrigger_14 (by decide) (fun c_14 => absurd c_14 (nI_ge (b := 4) (by omega) (by decide))) (fun _ => ?_)
      refine lv_aload_n hx hb dX2_bestOutrigger_17 rfl (lv_at hl 3 rfl) ?_
      refine va_get (D := D) (ci := 2) (v := .ref rg) (C := RX2) (T := TX2) (N := 9) hx hb hts hiX2 hown hK hP 0 rfl rfl 0 (by decide) (hts (.fieldLink RX2 12 "CraneReach" "rig" "LCraneReach$Rig;") (by decide +kernel)) (fun _ h9 => h9) rfl dX2_bestOutrigger_18 ?_
      refine lv_iload hx hb dX2_bestOutrigger_21 (lv_at hl 0 rfl) ?_
      have hPc := hP.sub (ws' := [(rg, .inr (1, [.ref ro, .ref rl, .int pl])), (ro, .inl (cI, 4, .inl fo)), (rl, .inl (cI, 28, .inl (sh fl)))]) [1, 2, 3] rfl
      have hDc : va_D (fun q : Nat => L0 ≤ q) [(rg, .inr (1, [.ref ro, .ref rl, .int pl])), (ro, .inl (cI, 4, .inl fo)), (rl, .inl (cI, 28, .inl (sh fl)))] := (hD.sub (ws' := [(rg, .inr (1, [.ref ro, .ref rl, .int pl])), (ro, .inl (cI, 4, .inl fo)), (rl, .inl (cI, 28, .inl (sh fl)))]) [1, 2, 3] (by decide) rfl).weaken (fun _ z9 _ h9 => hAL _ h9)
      have hKc := hK.sub (tys' := [(cI, .int)]) [0] rfl
      refine c_callR (va_runV (As := [.int (nI k)]) (rest := []) ⟨hx, hb, hml, hown, hts⟩ (k_drawn l D L0 cI rg ro rl pl fo (sh fl) k (by omega)) (cwV 1 hts gX2_bestOutrigger_X1_drawn rfl rfl rfl (by decide +kernel) ⟨Nat.le_of_ble_eq_true rfl, Nat.le_of_ble_eq_true rfl⟩) ⟨cP_blind, va_recv hKc hPc (ci := 1) (q0 := 0) rfl rfl, cP_of hPc hKc hDc (kE_at hE0 hAL hS)⟩ rfl rfl hl.1 rfl (lv_room (Nat.le_of_ble_eq_true rfl)) dX2_bestOutrigger_23 ⟨Nat.le_of_ble_eq_true rfl, Nat.le_of_ble_eq_true rfl⟩) ?_
      show W _ _ _ _ _ _ _ _ _ _ _ _ _ _ _ (F0 m 26 ls [.int (fo k)])
      refine lv_istore (lv' := [(5, .int (fo k)), (4, .int (nI k)), (2, .int ((boN (canS fo) (ownS fo fl pl u d r) k).1)), (3, .int ((boN (canS fo) (ownS fo fl pl u d r) k).2)), (0, .ref x), (1, .int u)]) hx hb dX2_bestOutrigger_26 hl (by decide) rfl (fun ls hl => ?_)
      refine lv_iload hx hb dX2_bestOutrigger_28 (lv_at hl 0 rfl) ?_
      refine lv_bipush (v := 6) hx hb dX2_bestOutrigger_30 (by decide) ?_
      refine lv_icmp_ge (tgt := 93) hx hb dX2_bestOutrigger_32 (by decide) (fun c_15 => ?_) (fun c_15 => ?_)
      · have e : boN (canS fo) (ownS fo fl pl u d r) (k + 1) = boN (canS fo) (ownS fo fl pl u d r) k := by rw [boN, if_neg (show ¬ canS fo k = true from fun z => absurd (of_decide_eq_true z) (i_len c_15))]
        refine lv_iinc (v := (nI k) + 1) (lv' := [(4, .int ((nI k) + 1)), (5, .int (fo k)), (2, .int ((boN (canS fo) (ownS fo fl pl u d r) k).1)), (3, .int ((boN (canS fo) (ownS fo fl pl u d r) k).2)), (0, .ref x), (1, .int u)]) hx hb dX2_bestOutrigger_93 hl (k := 1) rfl rfl (by decide) rfl (fun ls hl => ?_)
        refine lv_goto (tgt := 11) hx hb dX2_bestOutrigger_96 (by decide) ?_
        have hl : lv_has ls 7 [(4, .int (nI (k + 1))), (5, .int (fo k)), (2, .int ((boN (canS fo) (ownS fo fl pl u d r) k).1)), (3, .int ((boN (canS fo) (ownS fo fl pl u d r) k).2)), (0, .ref x), (1, .int u)] := (show (nI k) + 1 = nI (k + 1) from nI_1 k) ▸ hl
        have hl : lv_has ls 7 [(4, .int (nI (k + 1))), (5, .int (fo k)), (2, .int ((boN (canS fo) (ownS fo fl pl u d r) (k + 1)).1)), (3, .int ((boN (canS fo) (ownS fo fl pl u d r) k).2)), (0, .ref x), (1, .int u)] := (show (boN (canS fo) (ownS fo fl pl u d r) k).1 = (boN (canS fo) (ownS fo fl pl u d r) (k + 1)).1 from by rw [e]) ▸ hl
        have hl : lv_has ls 7 [(4, .int (nI (k + 1))), (5, .int (fo k)), (2, .int ((boN (canS fo) (ownS fo fl pl u d r) (k + 1)).1)), (3, .int ((boN (canS fo) (ownS fo fl pl u d r) (k + 1)).2)), (0, .ref x), (1, .int u)] := (show (boN (canS fo) (ownS fo fl pl u d r) k).2 = (boN (canS fo) (ownS fo fl pl u d r) (k + 1)).2 from by rw [e]) ▸ hl
        exact ih (k + 1) _ _ _ _ _ _ _ _ _ (by omega) (lv_sub hl [0, 2, 3, 4, 5] rfl) hP hD hS
      · have hcan : canS fo k = true := decide_eq_true (i_nle c_15)
        refine lv_aload_n hx hb dX2_bestOutrigger_35 rfl (lv_at hl 4 rfl) ?_
        refine va_get (D := D) (ci := 2) (v := .ref tr) (C := RX2) (T := TX2) (N := 9) hx hb hts hiX2 hown hK hP 0 rfl rfl 1 (by decide) (hts (.fieldLink RX2 16 "CraneReach" "trial" "LCraneReach$Rig;") (by decide +kernel)) (fun _ h9 => h9) rfl dX2_bestOutrigger_36 ?_
        refine lv_aload_n hx hb dX2_bestOutrigger_39 rfl (lv_at hl 4 rfl) ?_
        refine va_get (D := D) (ci := 2) (v := .ref rg) (C := RX2) (T := TX2) (N := 9) hx hb hts hiX2 hown hK hP 0 rfl rfl 0 (by decide) (hts (.fieldLink RX2 12 "CraneReach" "rig" "LCraneReach$Rig;") (by decide +kernel)) (fun _ h9 => h9) rfl dX2_bestOutrigger_40 ?_
        have hPc := hP.sub (ws' := [(tr, .inr (1, [.ref t0, .ref t1, .int tp])), (t0, .inl (cI, 4, .inl ta)), (t1, .inl (cI, 28, .inl tb)), (rg, .inr (1, [.ref ro, .ref rl, .int pl])), (ro, .inl (cI, 4, .inl fo)), (rl, .inl (cI, 28, .inl (sh fl)))]) [4, 5, 6, 1, 2, 3] rfl
        have hDc : va_D (fun q : Nat => L0 ≤ q) [(tr, .inr (1, [.ref t0, .ref t1, .int tp])), (t0, .inl (cI, 4, .inl ta)), (t1, .inl (cI, 28, .inl tb)), (rg, .inr (1, [.ref ro, .ref rl, .int pl])), (ro, .inl (cI, 4, .inl fo)), (rl, .inl (cI, 28, .inl (sh fl)))] := (hD.sub (ws' := [(tr, .inr (1, [.ref t0, .ref t1, .int tp])), (t0, .inl (cI, 4, .inl ta)), (t1, .inl (cI, 28, .inl tb)), (rg, .inr (1, [.ref ro, .ref rl, .int pl])), (ro, .inl (cI, 4, .inl fo)), (rl, .inl (cI, 28, .inl (sh fl)))]) [4, 5, 6, 1, 2, 3] (by decide) rfl).weaken (fun _ z9 _ h9 => hAL _ h9)
        have hKc := hK.sub (tys' := [(cI, .int)]) [0] rfl
        refine c_callB (va_runV (As := [.ref rg]) (rest := []) ⟨hx, hb, hml, hown, hts⟩ (k_becomeLike l D L0 cI tr t0 t1 tp ta tb rg ro rl pl fo fl) (cwV 1 hts gX2_bestOutrigger_X1_becomeLike rfl rfl rfl (by decide +kernel) ⟨Nat.le_of_ble_eq_true rfl, Nat.le_of_ble_eq_true rfl⟩) ⟨cP_blind, va_recv hKc hPc (ci := 1) (q0 := 0) rfl rfl, cP_of hPc hKc hDc (kE_at hE0 hAL hS)⟩ rfl rfl hl.1 rfl (lv_room (Nat.le_of_ble_eq_true rfl)) dX2_bestOutrigger_43 ⟨Nat.le_of_ble_eq_true rfl, Nat.le_of_ble_eq_true rfl⟩) hS (fun z9 _ ⟨k9, e9, h9⟩ => (hD.sub (ws' := [(tr, .inr (1, [.ref t0, .ref t1, .int tp])), (t0, .inl (cI, 4, .inl ta)), (t1, .inl (cI, 28, .inl tb)), (rg, .inr (1, [.ref ro, .ref rl, .int pl])), (ro, .inl (cI, 4, .inl fo)), (rl, .inl (cI, 28, .inl (sh fl)))]) [4, 5, 6, 1, 2, 3] (by decide) rfl).2 k9 (z9, e9) h9) (fun z9 ⟨k9, e9, h9⟩ => (hD.sub (ws' := [(tr, .inr (1, [.ref t0, .ref t1, .int tp])), (t0, .inl (cI, 4, .inl ta)), (t1, .inl (cI, 28, .inl tb)), (rg, .inr (1, [.ref ro, .ref rl, .int pl])), (ro, .inl (cI, 4, .inl fo)), (rl, .inl (cI, 28, .inl (sh fl)))]) [4, 5, 6, 1, 2, 3] (by decide) rfl).2 k9 (z9, e9) h9) (fun H1 locs hB hz1 hk1 hS => ?_)
        obtain ⟨hP, hD⟩ := c_join (ws' := [(x, .inr (2, [.ref rg, .ref tr, .ref pn, .int (nI d), .int (nI r), .int ld, .int li, .int tl, .int mo])), (rg, .inr (1, [.ref ro, .ref rl, .int pl])), (ro, .inl (cI, 4, .inl fo)), (rl, .inl (cI, 28, .inl (sh fl))), (tr, .inr (1, [.ref t0, .ref t1, .int pl])), (t0, .inl (cI, 4, .inl fo)), (t1, .inl (cI, 28, .inl (sh fl))), (pn, .inr (0, [.ref pm, .ref pf, .int qn])), (pm, .inl (cI, 224, .inl qm)), (pf, .inl (cI, 224, .inl qf))]) (wr := [(x, .inr (2, [.ref rg, .ref tr, .ref pn, .int (nI d), .int (nI r), .int ld, .int li, .int tl, .int mo])), (pn, .inr (0, [.ref pm, .ref pf, .int qn])), (pm, .inl (cI, 224, .inl qm)), (pf, .inl (cI, 224, .inl qf))]) (w1 := [(tr, .inr (1, [.ref t0, .ref t1, .int pl])), (t0, .inl (cI, 4, .inl fo)), (t1, .inl (cI, 28, .inl (sh fl))), (rg, .inr (1, [.ref ro, .ref rl, .int pl])), (ro, .inl (cI, 4, .inl fo)), (rl, .inl (cI, 28, .inl (sh fl)))]) hP hD [4, 5, 6, 1, 2, 3] [0, 7, 8, 9] [0, 7, 8, 9, 4, 5, 6, 1, 2, 3] rfl rfl (by decide) (by decide) hk1 hB rfl rfl rfl (by decide)
        generalize H1 = H at hP hS ⊢
        show W _ _ _ _ _ _ _ _ _ _ _ _ _ _ _ (F0 m 46 ls [])
        refine lv_aload_n hx hb dX2_bestOutrigger_46 rfl (lv_at hl 4 rfl) ?_
        refine va_get (D := D) (ci := 2) (v := .ref tr) (C := RX2) (T := TX2) (N := 9) hx hb hts hiX2 hown hK hP 0 rfl rfl 1 (by decide) (hts (.fieldLink RX2 16 "CraneReach" "trial" "LCraneReach$Rig;") (by decide +kernel)) (fun _ h9 => h9) rfl dX2_bestOutrigger_47 ?_
        refine lv_iload hx hb dX2_bestOutrigger_50 (lv_at hl 1 rfl) ?_
        refine lv_iload hx hb dX2_bestOutrigger_52 (lv_at hl 0 rfl) ?_
        refine lv_iconst (v := 1) hx hb dX2_bestOutrigger_54 (by decide) ?_
        refine lv_iadd hx hb dX2_bestOutrigger_55 ?_
        have hPc := hP.sub (ws' := [(tr, .inr (1, [.ref t0, .ref t1, .int pl])), (t0, .inl (cI, 4, .inl fo)), (t1, .inl (cI, 28, .inl (sh fl)))]) [4, 5, 6] rfl
        have hDc : va_D (fun q : Nat => L0 ≤ q) [(tr, .inr (1, [.ref t0, .ref t1, .int pl])), (t0, .inl (cI, 4, .inl fo)), (t1, .inl (cI, 28, .inl (sh fl)))] := (hD.sub (ws' := [(tr, .inr (1, [.ref t0, .ref t1, .int pl])), (t0, .inl (cI, 4, .inl fo)), (t1, .inl (cI, 28, .inl (sh fl)))]) [4, 5, 6] (by decide) rfl).weaken (fun _ z9 _ h9 => hAL _ h9)
        have hKc := hK.sub (tys' := [(cI, .int)]) [0] rfl
        refine c_callB (va_runV (As := [.int (nI k), .int ((fo k) + 1)]) (rest := []) ⟨hx, hb, hml, hown, hts⟩ (k_draw l D L0 cI tr t0 t1 pl fo (sh fl) k (fo k + 1) (by omega)) (cwV 2 hts gX2_bestOutrigger_X1_draw rfl rfl rfl (by decide +kernel) ⟨Nat.le_of_ble_eq_true rfl, Nat.le_of_ble_eq_true rfl⟩) ⟨cP_blind, va_recv hKc hPc (ci := 1) (q0 := 0) rfl rfl, cP_of hPc hKc hDc (kE_at hE0 hAL hS)⟩ rfl rfl hl.1 rfl (lv_room (Nat.le_of_ble_eq_true rfl)) dX2_bestOutrigger_56 ⟨Nat.le_of_ble_eq_true rfl, Nat.le_of_ble_eq_true rfl⟩) hS (fun z9 _ ⟨k9, e9, h9⟩ => (hD.sub (ws' := [(tr, .inr (1, [.ref t0, .ref t1, .int pl])), (t0, .inl (cI, 4, .inl fo)), (t1, .inl (cI, 28, .inl (sh fl)))]) [4, 5, 6] (by decide) rfl).2 k9 (z9, e9) h9) (fun z9 ⟨k9, e9, h9⟩ => (hD.sub (ws' := [(tr, .inr (1, [.ref t0, .ref t1, .int pl])), (t0, .inl (cI, 4, .inl fo)), (t1, .inl (cI, 28, .inl (sh fl)))]) [4, 5, 6] (by decide) rfl).2 k9 (z9, e9) h9) (fun H1 locs hB hz1 hk1 hS => ?_)
        obtain ⟨hP, hD⟩ := c_join (ws' := [(x, .inr (2, [.ref rg, .ref tr, .ref pn, .int (nI d), .int (nI r), .int ld, .int li, .int tl, .int mo])), (rg, .inr (1, [.ref ro, .ref rl, .int pl])), (ro, .inl (cI, 4, .inl fo)), (rl, .inl (cI, 28, .inl (sh fl))), (tr, .inr (1, [.ref t0, .ref t1, .int pl])), (t0, .inl (cI, 4, .inl (upd fo k (fo k + 1)))), (t1, .inl (cI, 28, .inl (sh fl))), (pn, .inr (0, [.ref pm, .ref pf, .int qn])), (pm, .inl (cI, 224, .inl qm)), (pf, .inl (cI, 224, .inl qf))]) (wr := [(x, .inr (2, [.ref rg, .ref tr, .ref pn, .int (nI d), .int (nI r), .int ld, .int li, .int tl, .int mo])), (rg, .inr (1, [.ref ro, .ref rl, .int pl])), (ro, .inl (cI, 4, .inl fo)), (rl, .inl (cI, 28, .inl (sh fl))), (pn, .inr (0, [.ref pm, .ref pf, .int qn])), (pm, .inl (cI, 224, .inl qm)), (pf, .inl (cI, 224, .inl qf))]) (w1 := [(tr, .inr (1, [.ref t0, .ref t1, .int pl])), (t0, .inl (cI, 4, .inl (upd fo k (fo k + 1)))), (t1, .inl (cI, 28, .inl (sh fl)))]) hP hD [4, 5, 6] [0, 1, 2, 3, 7, 8, 9] [0, 1, 2, 3, 7, 8, 9, 4, 5, 6] rfl rfl (by decide) (by decide) hk1 hB rfl rfl rfl (by decide)
        generalize H1 = H at hP hS ⊢
        show W _ _ _ _ _ _ _ _ _ _ _ _ _ _ _ (F0 m 59 ls [])
        refine lv_aload_n hx hb dX2_bestOutrigger_59 rfl (lv_at hl 4 rfl) ?_
        refine va_get (D := D) (ci := 2) (v := .ref pn) (C := RX2) (T := TX2) (N := 9) hx hb hts hiX2 hown hK hP 0 rfl rfl 2 (by decide) (hts (.fieldLink RX2 22 "CraneReach" "plan" "LCraneReach$Plan;") (by decide +kernel)) (fun _ h9 => h9) rfl dX2_bestOutrigger_60 ?_
        refine lv_aload_n hx hb dX2_bestOutrigger_63 rfl (lv_at hl 4 rfl) ?_
        refine va_get (D := D) (ci := 2) (v := .ref tr) (C := RX2) (T := TX2) (N := 9) hx hb hts hiX2 hown hK hP 0 rfl rfl 1 (by decide) (hts (.fieldLink RX2 16 "CraneReach" "trial" "LCraneReach$Rig;") (by decide +kernel)) (fun _ h9 => h9) rfl dX2_bestOutrigger_64 ?_
        refine lv_iload_n hx hb dX2_bestOutrigger_67 rfl (lv_at hl 5 rfl) ?_
        refine lv_aload_n hx hb dX2_bestOutrigger_68 rfl (lv_at hl 4 rfl) ?_
        refine va_get (D := D) (ci := 2) (v := .int (nI d)) (C := RX2) (T := TX2) (N := 9) hx hb hts hiX2 hown hK hP 0 rfl rfl 3 (by decide) (hts (.fieldLink RX2 98 "CraneReach" "direction" "I") (by decide +kernel)) (fun _ h9 => h9) rfl dX2_bestOutrigger_69 ?_
        refine lv_aload_n hx hb dX2_bestOutrigger_72 rfl (lv_at hl 4 rfl) ?_
        refine va_get (D := D) (ci := 2) (v := .int (nI r)) (C := RX2) (T := TX2) (N := 9) hx hb hts hiX2 hown hK hP 0 rfl rfl 4 (by decide) (hts (.fieldLink RX2 26 "CraneReach" "reach" "I") (by decide +kernel)) (fun _ h9 => h9) rfl dX2_bestOutrigger_73 ?_
        have hPc := hP.sub (ws' := [(pn, .inr (0, [.ref pm, .ref pf, .int qn])), (pm, .inl (cI, 224, .inl qm)), (pf, .inl (cI, 224, .inl qf)), (tr, .inr (1, [.ref t0, .ref t1, .int pl])), (t0, .inl (cI, 4, .inl (upd fo k (fo k + 1)))), (t1, .inl (cI, 28, .inl (sh fl)))]) [7, 8, 9, 4, 5, 6] rfl
        have hDc : va_D (fun q : Nat => L0 ≤ q) [(pn, .inr (0, [.ref pm, .ref pf, .int qn])), (pm, .inl (cI, 224, .inl qm)), (pf, .inl (cI, 224, .inl qf)), (tr, .inr (1, [.ref t0, .ref t1, .int pl])), (t0, .inl (cI, 4, .inl (upd fo k (fo k + 1)))), (t1, .inl (cI, 28, .inl (sh fl)))] := (hD.sub (ws' := [(pn, .inr (0, [.ref pm, .ref pf, .int qn])), (pm, .inl (cI, 224, .inl qm)), (pf, .inl (cI, 224, .inl qf)), (tr, .inr (1, [.ref t0, .ref t1, .int pl])), (t0, .inl (cI, 4, .inl (upd fo k (fo k + 1)))), (t1, .inl (cI, 28, .inl (sh fl)))]) [7, 8, 9, 4, 5, 6] (by decide) rfl).weaken (fun _ z9 _ h9 => hAL _ h9)
        have hKc := hK.sub (tys' := [(cI, .int)]) [0] rfl
        refine c_callB (va_runV (As := [.ref tr, .int u, .int (nI d), .int (nI r)]) (rest := []) ⟨hx, hb, hml, hown, hts⟩ (k_spread l D L0 cI pn pm pf tr t0 t1 qn qm qf pl (upd fo k (fo k + 1)) fl u d r hd hr) (cwV 4 hts gX2_bestOutrigger_X0_spread rfl rfl rfl (by decide +kernel) ⟨Nat.le_of_ble_eq_true rfl, Nat.le_of_ble_eq_true rfl⟩) ⟨cP_blind, va_recv hKc hPc (ci := 0) (q0 := 0) rfl rfl, cP_of hPc hKc hDc (kE_at hE0 hAL hS)⟩ rfl rfl hl.1 rfl (lv_room (Nat.le_of_ble_eq_true rfl)) dX2_bestOutrigger_76 ⟨Nat.le_of_ble_eq_true rfl, Nat.le_of_ble_eq_true rfl⟩) hS (fun z9 _ ⟨k9, e9, h9⟩ => (hD.sub (ws' := [(pn, .inr (0, [.ref pm, .ref pf, .int qn])), (pm, .inl (cI, 224, .inl qm)), (pf, .inl (cI, 224, .inl qf)), (tr, .inr (1, [.ref t0, .ref t1, .int pl])), (t0, .inl (cI, 4, .inl (upd fo k (fo k + 1)))), (t1, .inl (cI, 28, .inl (sh fl)))]) [7, 8, 9, 4, 5, 6] (by decide) rfl).2 k9 (z9, e9) h9) (fun z9 ⟨k9, e9, h9⟩ => (hD.sub (ws' := [(pn, .inr (0, [.ref pm, .ref pf, .int qn])), (pm, .inl (cI, 224, .inl qm)), (pf, .inl (cI, 224, .inl qf)), (tr, .inr (1, [.ref t0, .ref t1, .int pl])), (t0, .inl (cI, 4, .inl (upd fo k (fo k + 1)))), (t1, .inl (cI, 28, .inl (sh fl)))]) [7, 8, 9, 4, 5, 6] (by decide) rfl).2 k9 (z9, e9) h9) (fun H1 locs hB hz1 hk1 hS => ?_)
        obtain ⟨fm9, ff9, hC, hB⟩ := hB
        obtain ⟨hP, hD⟩ := c_join (ws' := [(x, .inr (2, [.ref rg, .ref tr, .ref pn, .int (nI d), .int (nI r), .int ld, .int li, .int tl, .int mo])), (rg, .inr (1, [.ref ro, .ref rl, .int pl])), (ro, .inl (cI, 4, .inl fo)), (rl, .inl (cI, 28, .inl (sh fl))), (tr, .inr (1, [.ref t0, .ref t1, .int pl])), (t0, .inl (cI, 4, .inl (upd fo k (fo k + 1)))), (t1, .inl (cI, 28, .inl (sh fl))), (pn, .inr (0, [.ref pm, .ref pf, .int (nI (goS (safS (upd fo k (fo k + 1)) fl pl u) d r).2.2)])), (pm, .inl (cI, 224, .inl fm9)), (pf, .inl (cI, 224, .inl ff9))]) (wr := [(x, .inr (2, [.ref rg, .ref tr, .ref pn, .int (nI d), .int (nI r), .int ld, .int li, .int tl, .int mo])), (rg, .inr (1, [.ref ro, .ref rl, .int pl])), (ro, .inl (cI, 4, .inl fo)), (rl, .inl (cI, 28, .inl (sh fl)))]) (w1 := [(pn, .inr (0, [.ref pm, .ref pf, .int (nI (goS (safS (upd fo k (fo k + 1)) fl pl u) d r).2.2)])), (pm, .inl (cI, 224, .inl fm9)), (pf, .inl (cI, 224, .inl ff9)), (tr, .inr (1, [.ref t0, .ref t1, .int pl])), (t0, .inl (cI, 4, .inl (upd fo k (fo k + 1)))), (t1, .inl (cI, 28, .inl (sh fl)))]) hP hD [7, 8, 9, 4, 5, 6] [0, 1, 2, 3] [0, 1, 2, 3, 7, 8, 9, 4, 5, 6] rfl rfl (by decide) (by decide) hk1 hB rfl rfl rfl (by decide)
        generalize H1 = H at hP hS ⊢
        show W _ _ _ _ _ _ _ _ _ _ _ _ _ _ _ (F0 m 79 ls [.int (nI (goS (safS (upd fo k (fo k + 1)) fl pl u) d r).2.2)])
        refine c_top (show (nI (goS (safS (upd fo k (fo k + 1)) fl pl u) d r).2.2) = ownS fo fl pl u d r k from rfl) ?_
        refine lv_istore (lv' := [(6, .int (ownS fo fl pl u d r k)), (5, .int (fo k)), (4, .int (nI k)), (2, .int ((boN (canS fo) (ownS fo fl pl u d r) k).1)), (3, .int ((boN (canS fo) (ownS fo fl pl u d r) k).2)), (0, .ref x), (1, .int u)]) hx hb dX2_bestOutrigger_79 hl (by decide) rfl (fun ls hl => ?_)
        refine lv_iload hx hb dX2_bestOutrigger_81 (lv_at hl 0 rfl) ?_
        refine lv_iload_n hx hb dX2_bestOutrigger_83 rfl (lv_at hl 4 rfl) ?_
        refine lv_icmp_le (tgt := 93) hx hb dX2_bestOutrigger_84 (by decide) (fun c_16 => ?_) (fun c_16 => ?_)
        · have e : boN (canS fo) (ownS fo fl pl u d r) (k + 1) = boN (canS fo) (ownS fo fl pl u d r) k := by rw [boN, if_pos hcan, if_neg (i_len c_16)]
          refine lv_iinc (v := (nI k) + 1) (lv' := [(4, .int ((nI k) + 1)), (6, .int (ownS fo fl pl u d r k)), (5, .int (fo k)), (2, .int ((boN (canS fo) (ownS fo fl pl u d r) k).1)), (3, .int ((boN (canS fo) (ownS fo fl pl u d r) k).2)), (0, .ref x), (1, .int u)]) hx hb dX2_bestOutrigger_93 hl (k := 2) rfl rfl (by decide) rfl (fun ls hl => ?_)
          refine lv_goto (tgt := 11) hx hb dX2_bestOutrigger_96 (by decide) ?_
          have hl : lv_has ls 7 [(4, .int (nI (k + 1))), (6, .int (ownS fo fl pl u d r k)), (5, .int (fo k)), (2, .int ((boN (canS fo) (ownS fo fl pl u d r) k).1)), (3, .int ((boN (canS fo) (ownS fo fl pl u d r) k).2)), (0, .ref x), (1, .int u)] := (show (nI k) + 1 = nI (k + 1) from nI_1 k) ▸ hl
          have hl : lv_has ls 7 [(4, .int (nI (k + 1))), (6, .int (ownS fo fl pl u d r k)), (5, .int (fo k)), (2, .int ((boN (canS fo) (ownS fo fl pl u d r) (k + 1)).1)), (3, .int ((boN (canS fo) (ownS fo fl pl u d r) k).2)), (0, .ref x), (1, .int u)] := (show (boN (canS fo) (ownS fo fl pl u d r) k).1 = (boN (canS fo) (ownS fo fl pl u d r) (k + 1)).1 from by rw [e]) ▸ hl
          have hl : lv_has ls 7 [(4, .int (nI (k + 1))), (6, .int (ownS fo fl pl u d r k)), (5, .int (fo k)), (2, .int ((boN (canS fo) (ownS fo fl pl u d r) (k + 1)).1)), (3, .int ((boN (canS fo) (ownS fo fl pl u d r) (k + 1)).2)), (0, .ref x), (1, .int u)] := (show (boN (canS fo) (ownS fo fl pl u d r) k).2 = (boN (canS fo) (ownS fo fl pl u d r) (k + 1)).2 from by rw [e]) ▸ hl
          exact ih (k + 1) _ _ _ _ _ _ _ _ _ (by omega) (lv_sub hl [0, 3, 4, 5, 6] rfl) hP hD hS
        · have e : boN (canS fo) (ownS fo fl pl u d r) (k + 1) = (nI k, ownS fo fl pl u d r k) := by rw [boN, if_pos hcan, if_pos (i_nle c_16)]
          refine lv_iload hx hb dX2_bestOutrigger_87 (lv_at hl 2 rfl) ?_
          refine lv_istore_n (lv' := [(2, .int (nI k)), (6, .int (ownS fo fl pl u d r k)), (5, .int (fo k)), (4, .int (nI k)), (3, .int ((boN (canS fo) (ownS fo fl pl u d r) k).2)), (0, .ref x), (1, .int u)]) hx hb dX2_bestOutrigger_89 rfl hl (by decide) rfl (fun ls hl => ?_)
          refine lv_iload hx hb dX2_bestOutrigger_90 (lv_at hl 1 rfl) ?_
          refine lv_istore_n (lv' := [(3, .int (ownS fo fl pl u d r k)), (2, .int (nI k)), (6, .int (ownS fo fl pl u d r k)), (5, .int (fo k)), (4, .int (nI k)), (0, .ref x), (1, .int u)]) hx hb dX2_bestOutrigger_92 rfl hl (by decide) rfl (fun ls hl => ?_)
          refine lv_iinc (v := (nI k) + 1) (lv' := [(4, .int ((nI k) + 1)), (3, .int (ownS fo fl pl u d r k)), (2, .int (nI k)), (6, .int (ownS fo fl pl u d r k)), (5, .int (fo k)), (0, .ref x), (1, .int u)]) hx hb dX2_bestOutrigger_93 hl (k := 4) rfl rfl (by decide) rfl (fun ls hl => ?_)
          refine lv_goto (tgt := 11) hx hb dX2_bestOutrigger_96 (by decide) ?_
          have hl : lv_has ls 7 [(4, .int (nI (k + 1))), (3, .int (ownS fo fl pl u d r k)), (2, .int (nI k)), (6, .int (ownS fo fl pl u d r k)), (5, .int (fo k)), (0, .ref x), (1, .int u)] := (show (nI k) + 1 = nI (k + 1) from nI_1 k) ▸ hl
          have hl : lv_has ls 7 [(4, .int (nI (k + 1))), (3, .int (ownS fo fl pl u d r k)), (2, .int ((boN (canS fo) (ownS fo fl pl u d r) (k + 1)).1)), (6, .int (ownS fo fl pl u d r k)), (5, .int (fo k)), (0, .ref x), (1, .int u)] := (show nI k = (boN (canS fo) (ownS fo fl pl u d r) (k + 1)).1 from by rw [e]) ▸ hl
          have hl : lv_has ls 7 [(4, .int (nI (k + 1))), (3, .int ((boN (canS fo) (ownS fo fl pl u d r) (k + 1)).2)), (2, .int ((boN (canS fo) (ownS fo fl pl u d r) (k + 1)).1)), (6, .int (ownS fo fl pl u d r k)), (5, .int (fo k)), (0, .ref x), (1, .int u)] := (show ownS fo fl pl u d r k = (boN (canS fo) (ownS fo fl pl u d r) (k + 1)).2 from by rw [e]) ▸ hl
          exact ih (k + 1) _ _ _ _ _ _ _ _ _ (by omega) (lv_sub hl [0, 2, 1, 5, 6] rfl) hP hD hS
  refine lv_iload_n hx hb dX2_bestOutrigger_0 rfl (lv_at hl 1 rfl) ?_
  have hPc := hP.sub (ws' := []) [] rfl
  have hDc : va_D (fun q : Nat => L0 ≤ q) [] := (hD.sub (ws' := []) [] (by decide) rfl).weaken (fun _ z9 _ h9 => hAL _ h9)
  have hKc := hK.sub (tys' := []) [] rfl
  refine c_callR (va_runS (As := [.int u]) (rest := []) ⟨hx, hb, hml, hown, hts⟩ (k_requireLoad_ok l D L0 u hu) (va_cwS 1 hts gX2_bestOutrigger_X2_requireLoad rfl rfl rfl (by decide +kernel) ⟨Nat.le_of_ble_eq_true rfl, Nat.le_of_ble_eq_true rfl⟩) ⟨cP_blind, cP_of hPc hKc hDc (kE_at hE0 hAL hS)⟩ rfl rfl hl.1 rfl (lv_room (Nat.le_of_ble_eq_true rfl)) dX2_bestOutrigger_1 ⟨Nat.le_of_ble_eq_true rfl, Nat.le_of_ble_eq_true rfl⟩) ?_
  show W _ _ _ _ _ _ _ _ _ _ _ _ _ _ _ (F0 m 4 ls [])
  refine lv_iconst (v := -1) hx hb dX2_bestOutrigger_4 (by decide) ?_
  refine lv_istore_n (lv' := [(2, .int (-1)), (0, .ref x), (1, .int u)]) hx hb dX2_bestOutrigger_5 rfl hl (by decide) rfl (fun ls hl => ?_)
  refine lv_iconst (v := -1) hx hb dX2_bestOutrigger_6 (by decide) ?_
  refine lv_istore_n (lv' := [(3, .int (-1)), (2, .int (-1)), (0, .ref x), (1, .int u)]) hx hb dX2_bestOutrigger_7 rfl hl (by decide) rfl (fun ls hl => ?_)
  refine lv_iconst (v := 0) hx hb dX2_bestOutrigger_8 (by decide) ?_
  refine lv_istore (lv' := [(4, .int 0), (3, .int (-1)), (2, .int (-1)), (0, .ref x), (1, .int u)]) hx hb dX2_bestOutrigger_9 hl (by decide) rfl (fun ls hl => ?_)
  have hl : lv_has ls 7 [(4, .int (nI 0)), (3, .int (-1)), (2, .int (-1)), (0, .ref x), (1, .int u)] := (show 0 = nI 0 from rfl) ▸ hl
  have hl : lv_has ls 7 [(4, .int (nI 0)), (3, .int (-1)), (2, .int ((boN (canS fo) (ownS fo fl pl u d r) 0).1)), (0, .ref x), (1, .int u)] := (show (-1) = (boN (canS fo) (ownS fo fl pl u d r) 0).1 from rfl) ▸ hl
  have hl : lv_has ls 7 [(4, .int (nI 0)), (3, .int ((boN (canS fo) (ownS fo fl pl u d r) 0).2)), (2, .int ((boN (canS fo) (ownS fo fl pl u d r) 0).1)), (0, .ref x), (1, .int u)] := (show (-1) = (boN (canS fo) (ownS fo fl pl u d r) 0).2 from rfl) ▸ hl
  exact loop 4 0 _ _ _ _ _ _ _ _ _ (by omega) (lv_sub hl [0, 2, 1, 3, 4] rfl) hP hD hS
