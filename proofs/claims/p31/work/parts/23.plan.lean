theorem tn_1 : ∀ d, d < 8 → tnI (nI d) 1 = nI ((d + 1) % 8) := by decide +kernel
theorem tn_m : ∀ d, d < 8 → tnI (nI d) (-1) = nI ((d + 7) % 8) := by decide +kernel
set_option maxHeartbeats 4000000 in
set_option maxRecDepth 100000 in
/-- placeOf(to, metres) -/
theorem k_placeOf (l : Launch) (D : va_G) (L0 : Nat) (d r : Nat) (hd : d < 8) (hr : r < 100) : Met l yX0_placeOf wsX0_placeOf ({ frames := 2, cells := 0, slots := 0, locals := 42 }) (cP L0 D [] [] [.int (nI d), .int (nI r)]) (cR (some (.int (if 3 ≤ r ∧ r ≤ 30 then nI (plc d r) else -1)))) 0 0 (fun _ => False) := by
  refine Met.ofW (cc := cX0_placeOf) (maxL := 2) (ret := (some .int)) (by decide) rfl ?_
  intro p e s m args below meth c s₁ B hml hv
  obtain ⟨rfl, hP, hK, hD0, hE0⟩ := hv
  have hx := B.exec
  have hb := B.bytes
  have hRt := B.returns
  have hts := atoms_spec (ws := wsX0_placeOf) B.pre
  have hown : s.vm.findClass RX0 = some m.cls := findClass_of_methodNamed B.named
  have hlocks := B.notSynchronized
  have hAL : ∀ z9 : Nat, (fun _ : Nat => False) z9 → L0 ≤ z9 := fun z9 h9 => False.elim h9
  generalize hAe : (fun _ : Nat => False) = A at hAL ⊢
  have hS : va_S A s.heap s.heap [] := va_S.rf
  have hl := lv_entry ([.int (nI d), .int (nI r)]) (n := 2) (Nat.le_of_ble_eq_true rfl)
  rw [lg_entry_eq]
  generalize (lg_sl ([.int (nI d), .int (nI r)]) ++ List.replicate (2 - (lg_sl ([.int (nI d), .int (nI r)])).length) Slot.unset).toArray = ls at hl ⊢
  have hl : lv_has ls 2 [(0, .int (nI d)), (1, .int (nI r))] := hl
  refine lv_iload_n hx hb dX0_placeOf_0 rfl (lv_at hl 1 rfl) ?_
  have hPc := hP.sub (ws' := []) [] rfl
  have hDc := hD0.sub (ws' := []) [] (by decide) rfl
  have hKc := hK.sub (tys' := []) [] rfl
  refine c_callR (va_runSN (As := [.int (nI r)]) (rest := []) ⟨hx, hb, hml, hown, hts⟩ (k_isReach l D L0 (nI r)) (⟨va_cnB 1 hts gX0_placeOf_X2_isReach_n43 rfl rfl rfl (hE0.2.2.2.2.2.1.2.2) (hts (.initialized RX2) (by decide +kernel)) (by decide +kernel) ⟨Nat.le_of_ble_eq_true rfl, Nat.le_of_ble_eq_true rfl⟩, hts (.static yX2_isReach) (by decide +kernel), trivial⟩) ⟨cP_blind, cP_of hPc hKc hDc (kE_at hE0 hAL hS)⟩ rfl rfl hl.1 rfl (lv_room (Nat.le_of_ble_eq_true rfl)) dX0_placeOf_1 ⟨Nat.le_of_ble_eq_true rfl, Nat.le_of_ble_eq_true rfl⟩) ?_
  show W _ _ _ _ _ _ _ _ _ _ _ _ _ _ _ (F0 m 4 ls [.int (bI (decide (3 ≤ nI r) && decide (nI r ≤ 30)))])
  by_cases cr : 3 ≤ r ∧ r ≤ 30
  · refine c_top (show (bI (decide (3 ≤ nI r) && decide (nI r ≤ 30))) = 1 from isR_yes cr) ?_
    refine lv_if_eq (tgt := 18) hx hb dX0_placeOf_4 (by decide) (fun c_1 => absurd c_1 (by decide)) (fun _ => ?_)
    refine lv_iload_n hx hb dX0_placeOf_7 rfl (lv_at hl 0 rfl) ?_
    refine lv_bipush (v := 28) hx hb dX0_placeOf_8 (by decide) ?_
    refine lv_imul hx hb dX0_placeOf_10 ?_
    refine lv_iload_n hx hb dX0_placeOf_11 rfl (lv_at hl 1 rfl) ?_
    refine lv_iadd hx hb dX0_placeOf_12 ?_
    refine lv_iconst (v := 3) hx hb dX0_placeOf_13 (by decide) ?_
    refine lv_isub hx hb dX0_placeOf_14 ?_
    refine c_top (show ((((nI d) * 28) + (nI r)) - 3) = nI (plc d r) from plc_i hd cr) ?_
    refine lv_goto (tgt := 19) hx hb dX0_placeOf_15 (by decide) ?_
    exact W.iret (v := (nI (plc d r))) hx hb hRt (fun t ht hW => ⟨by rw [if_pos cr], ht⟩) hS.2.2 dX0_placeOf_19
  · refine c_top (show (bI (decide (3 ≤ nI r) && decide (nI r ≤ 30))) = 0 from isR_no hr cr) ?_
    refine lv_if_eq (tgt := 18) hx hb dX0_placeOf_4 (by decide) (fun _ => ?_) (fun c_2 => absurd (rfl) c_2)
    refine lv_iconst (v := -1) hx hb dX0_placeOf_18 (by decide) ?_
    exact W.iret (v := (-1)) hx hb hRt (fun t ht hW => ⟨by rw [if_neg cr], ht⟩) hS.2.2 dX0_placeOf_19
set_option maxHeartbeats 4000000 in
set_option maxRecDepth 100000 in
/-- movesTo(to, metres) -/
theorem k_movesTo (l : Launch) (D : va_G) (L0 : Nat) (cI : ClassId) (pn pm pf : Nat) (np : Int32) (fm ff : Nat → Int32) (d r : Nat) (hd : d < 8) (hr : 3 ≤ r ∧ r ≤ 30) : Met l yX0_movesTo wsX0_movesTo ({ frames := 3, cells := 0, slots := 0, locals := 63 }) (cP L0 D [(cI, .int)] [(pn, .inr (0, [.ref pm, .ref pf, .int np])), (pm, .inl (cI, 224, .inl fm)), (pf, .inl (cI, 224, .inl ff))] [.ref pn, .int (nI d), .int (nI r)]) (cR (some (.int (fm (plc d r))))) 0 0 (fun _ => False) := by
  refine Met.ofW (cc := cX0_movesTo) (maxL := 4) (ret := (some .int)) (by decide) rfl ?_
  intro p e s m args below meth c s₁ B hml hv
  obtain ⟨rfl, hP, hK, hD0, hE0⟩ := hv
  have hx := B.exec
  have hb := B.bytes
  have hRt := B.returns
  have hts := atoms_spec (ws := wsX0_movesTo) B.pre
  have hown : s.vm.findClass RX0 = some m.cls := findClass_of_methodNamed B.named
  have hlocks := B.notSynchronized
  have hAL : ∀ z9 : Nat, (fun _ : Nat => False) z9 → L0 ≤ z9 := fun z9 h9 => False.elim h9
  generalize hAe : (fun _ : Nat => False) = A at hAL ⊢
  have hS : va_S A s.heap s.heap [] := va_S.rf
  have hiX0 : ∀ w ∈ u_ws RX0 TX0 3, w ∈ wsX0_movesTo := by decide +kernel
  have hl := lv_entry ([.ref pn, .int (nI d), .int (nI r)]) (n := 4) (Nat.le_of_ble_eq_true rfl)
  rw [lg_entry_eq]
  generalize (lg_sl ([.ref pn, .int (nI d), .int (nI r)]) ++ List.replicate (4 - (lg_sl ([.ref pn, .int (nI d), .int (nI r)])).length) Slot.unset).toArray = ls at hl ⊢
  have hl : lv_has ls 4 [(0, .ref pn), (1, .int (nI d)), (2, .int (nI r))] := hl
  have hp := plc_lt hd hr
  refine lv_iload_n hx hb dX0_movesTo_0 rfl (lv_at hl 1 rfl) ?_
  refine lv_iload_n hx hb dX0_movesTo_1 rfl (lv_at hl 2 rfl) ?_
  have hPc := hP.sub (ws' := []) [] rfl
  have hDc := hD0.sub (ws' := []) [] (by decide) rfl
  have hKc := hK.sub (tys' := []) [] rfl
  refine c_callR (va_runS (As := [.int (nI d), .int (nI r)]) (rest := []) ⟨hx, hb, hml, hown, hts⟩ (k_placeOf l D L0 d r hd (by omega)) (va_cwS 2 hts gX0_movesTo_X0_placeOf rfl rfl rfl (by decide +kernel) ⟨Nat.le_of_ble_eq_true rfl, Nat.le_of_ble_eq_true rfl⟩) ⟨cP_blind, cP_of hPc hKc hDc (kE_at hE0 hAL hS)⟩ rfl rfl hl.1 rfl (lv_room (Nat.le_of_ble_eq_true rfl)) dX0_movesTo_2 ⟨Nat.le_of_ble_eq_true rfl, Nat.le_of_ble_eq_true rfl⟩) ?_
  show W _ _ _ _ _ _ _ _ _ _ _ _ _ _ _ (F0 m 5 ls [.int (if 3 ≤ r ∧ r ≤ 30 then nI (plc d r) else -1)])
  refine c_top (show ((if 3 ≤ r ∧ r ≤ 30 then nI (plc d r) else -1)) = nI (plc d r) from if_pos hr) ?_
  refine lv_istore_n (lv' := [(3, .int (nI (plc d r))), (0, .ref pn), (1, .int (nI d)), (2, .int (nI r))]) hx hb dX0_movesTo_5 rfl hl (by decide) rfl (fun ls hl => ?_)
  refine lv_iload_n hx hb dX0_movesTo_6 rfl (lv_at hl 0 rfl) ?_
  refine lv_if_lt (tgt := 28) hx hb dX0_movesTo_7 (by decide) (fun c_3 => absurd c_3 (nI_pos (by omega))) (fun _ => ?_)
  refine lv_iload_n hx hb dX0_movesTo_10 rfl (lv_at hl 0 rfl) ?_
  refine lv_aload_n hx hb dX0_movesTo_11 rfl (lv_at hl 1 rfl) ?_
  refine va_get (D := D) (ci := 0) (v := .ref pm) (C := RX0) (T := TX0) (N := 3) hx hb hts hiX0 hown hK hP 0 rfl rfl 0 (by decide) (hts (.fieldLink RX0 9 "CraneReach$Plan" "moves" "[I") (by decide +kernel)) (fun _ h9 => h9) rfl dX0_movesTo_12 ?_
  refine va_alen hx hb hK hP 1 0 rfl rfl (v := 224) rfl dX0_movesTo_15 ?_
  refine lv_icmp_ge (tgt := 28) hx hb dX0_movesTo_16 (by decide) (fun c_4 => absurd c_4 (nI_ge (b := 224) hp (by decide))) (fun _ => ?_)
  refine lv_aload_n hx hb dX0_movesTo_19 rfl (lv_at hl 1 rfl) ?_
  refine va_get (D := D) (ci := 0) (v := .ref pm) (C := RX0) (T := TX0) (N := 3) hx hb hts hiX0 hown hK hP 0 rfl rfl 0 (by decide) (hts (.fieldLink RX0 9 "CraneReach$Plan" "moves" "[I") (by decide +kernel)) (fun _ h9 => h9) rfl dX0_movesTo_20 ?_
  refine lv_iload_n hx hb dX0_movesTo_23 rfl (lv_at hl 0 rfl) ?_
  refine va_iald hx hb hK hP 1 0 rfl rfl (vp_in_nI hp (by decide)) dX0_movesTo_24 ?_
  refine c_top (show (fm (nI (plc d r)).toNatClampNeg) = fm (plc d r) from by rw [nI_clamp (by omega)]) ?_
  refine lv_goto (tgt := 29) hx hb dX0_movesTo_25 (by decide) ?_
  exact W.iret (v := (fm (plc d r))) hx hb hRt (fun t ht hW => ⟨rfl, ht⟩) hS.2.2 dX0_movesTo_29
set_option maxHeartbeats 4000000 in
set_option maxRecDepth 100000 in
/-- visit(rig, tons, to, metres, count) -/
theorem k_visit (l : Launch) (D : va_G) (L0 : Nat) (cI : ClassId) (pn pm pf rg ro rl : Nat) (fm ff : Nat → Int32) (pl : Int32) (fo fl : Nat → Int32) (tons far : Int32) (S : bS) (d r k : Nat) (hd : d < 8) (hr : r < 100) (hI : bInv S) (hC : bC S fm ff) (hfar : far = nI k) (hk : k ≤ S.2.2) : Met l yX0_visit wsX0_visit ({ frames := 3, cells := 0, slots := 0, locals := 71 }) (cP L0 D [(cI, .int)] [(pn, .inr (0, [.ref pm, .ref pf, .int (nI S.2.2)])), (pm, .inl (cI, 224, .inl fm)), (pf, .inl (cI, 224, .inl ff)), (rg, .inr (1, [.ref ro, .ref rl, .int pl])), (ro, .inl (cI, 4, .inl fo)), (rl, .inl (cI, 28, .inl (sh fl)))] [.ref pn, .ref rg, .int tons, .int (nI d), .int (nI r), .int far]) (cB none (fun H => ∃ fm9 ff9 : Nat → Int32, bC (vis (safS fo fl pl tons) far d r S) fm9 ff9 ∧ va_P D vwCl [(pn, .inr (0, [.ref pm, .ref pf, .int (nI (vis (safS fo fl pl tons) far d r S).2.2)])), (pm, .inl (cI, 224, .inl fm9)), (pf, .inl (cI, 224, .inl ff9)), (rg, .inr (1, [.ref ro, .ref rl, .int pl])), (ro, .inl (cI, 4, .inl fo)), (rl, .inl (cI, 28, .inl (sh fl)))] H) (cA [(pn, .inr (0, [.ref pm, .ref pf, .int (nI S.2.2)])), (pm, .inl (cI, 224, .inl fm)), (pf, .inl (cI, 224, .inl ff)), (rg, .inr (1, [.ref ro, .ref rl, .int pl])), (ro, .inl (cI, 4, .inl fo)), (rl, .inl (cI, 28, .inl (sh fl)))])) 0 0 (cA [(pn, .inr (0, [.ref pm, .ref pf, .int (nI S.2.2)])), (pm, .inl (cI, 224, .inl fm)), (pf, .inl (cI, 224, .inl ff)), (rg, .inr (1, [.ref ro, .ref rl, .int pl])), (ro, .inl (cI, 4, .inl fo)), (rl, .inl (cI, 28, .inl (sh fl)))]) := by
  refine Met.ofW (cc := cX0_visit) (maxL := 7) (ret := none) (by decide) rfl ?_
  intro p e s m args below meth c s₁ B hml hv
  obtain ⟨rfl, hP, hK, hD0, hE0⟩ := hv
  have hx := B.exec
  have hb := B.bytes
  have hRt := B.returns
  have hts := atoms_spec (ws := wsX0_visit) B.pre
  have hown : s.vm.findClass RX0 = some m.cls := findClass_of_methodNamed B.named
  have hlocks := B.notSynchronized
  have hAL : ∀ z9 : Nat, cA [(pn, .inr (0, [.ref pm, .ref pf, .int (nI S.2.2)])), (pm, .inl (cI, 224, .inl fm)), (pf, .inl (cI, 224, .inl ff)), (rg, .inr (1, [.ref ro, .ref rl, .int pl])), (ro, .inl (cI, 4, .inl fo)), (rl, .inl (cI, 28, .inl (sh fl)))] z9 → L0 ≤ z9 := fun z9 ⟨k9, e9, h9⟩ => hD0.2 k9 (z9, e9) h9
  have hD : va_D (cA [(pn, .inr (0, [.ref pm, .ref pf, .int (nI S.2.2)])), (pm, .inl (cI, 224, .inl fm)), (pf, .inl (cI, 224, .inl ff)), (rg, .inr (1, [.ref ro, .ref rl, .int pl])), (ro, .inl (cI, 4, .inl fo)), (rl, .inl (cI, 28, .inl (sh fl)))]) [(pn, .inr (0, [.ref pm, .ref pf, .int (nI S.2.2)])), (pm, .inl (cI, 224, .inl fm)), (pf, .inl (cI, 224, .inl ff)), (rg, .inr (1, [.ref ro, .ref rl, .int pl])), (ro, .inl (cI, 4, .inl fo)), (rl, .inl (cI, 28, .inl (sh fl)))] := ⟨hD0.1, fun k9 z9 h9 => cA_of h9⟩
  generalize hAe : cA [(pn, .inr (0, [.ref pm, .ref pf, .int (nI S.2.2)])), (pm, .inl (cI, 224, .inl fm)), (pf, .inl (cI, 224, .inl ff)), (rg, .inr (1, [.ref ro, .ref rl, .int pl])), (ro, .inl (cI, 4, .inl fo)), (rl, .inl (cI, 28, .inl (sh fl)))] = A at hD hAL ⊢
  have hS : va_S A s.heap s.heap [] := va_S.rf
  have hiX0 : ∀ w ∈ u_ws RX0 TX0 3, w ∈ wsX0_visit := by decide +kernel
  have hiX1 : ∀ w ∈ u_ws RX1 TX1 3, w ∈ wsX0_visit := by decide +kernel
  have hl := lv_entry ([.ref pn, .ref rg, .int tons, .int (nI d), .int (nI r), .int far]) (n := 7) (Nat.le_of_ble_eq_true rfl)
  rw [lg_entry_eq]
  generalize (lg_sl ([.ref pn, .ref rg, .int tons, .int (nI d), .int (nI r), .int far]) ++ List.replicate (7 - (lg_sl ([.ref pn, .ref rg, .int tons, .int (nI d), .int (nI r), .int far])).length) Slot.unset).toArray = ls at hl ⊢
  have hl : lv_has ls 7 [(0, .ref pn), (1, .ref rg), (2, .int tons), (3, .int (nI d)), (4, .int (nI r)), (5, .int far)] := hl
  refine lv_iload_n hx hb dX0_visit_0 rfl (lv_at hl 3 rfl) ?_
  refine lv_iload hx hb dX0_visit_1 (lv_at hl 4 rfl) ?_
  have hPc := hP.sub (ws' := []) [] rfl
  have hDc : va_D (fun q : Nat => L0 ≤ q) [] := (hD.sub (ws' := []) [] (by decide) rfl).weaken (fun _ z9 _ h9 => hAL _ h9)
  have hKc := hK.sub (tys' := []) [] rfl
  refine c_callR (va_runS (As := [.int (nI d), .int (nI r)]) (rest := []) ⟨hx, hb, hml, hown, hts⟩ (k_placeOf l D L0 d r hd hr) (va_cwS 2 hts gX0_visit_X0_placeOf rfl rfl rfl (by decide +kernel) ⟨Nat.le_of_ble_eq_true rfl, Nat.le_of_ble_eq_true rfl⟩) ⟨cP_blind, cP_of hPc hKc hDc (kE_at hE0 hAL hS)⟩ rfl rfl hl.1 rfl (lv_room (Nat.le_of_ble_eq_true rfl)) dX0_visit_3 ⟨Nat.le_of_ble_eq_true rfl, Nat.le_of_ble_eq_true rfl⟩) ?_
  show W _ _ _ _ _ _ _ _ _ _ _ _ _ _ _ (F0 m 6 ls [.int (if 3 ≤ r ∧ r ≤ 30 then nI (plc d r) else -1)])
  by_cases cr : 3 ≤ r ∧ r ≤ 30
  · refine c_top (show ((if 3 ≤ r ∧ r ≤ 30 then nI (plc d r) else -1)) = nI (plc d r) from if_pos cr) ?_
    have hp := plc_lt hd cr
    refine lv_istore (lv' := [(6, .int (nI (plc d r))), (0, .ref pn), (1, .ref rg), (2, .int tons), (3, .int (nI d)), (4, .int (nI r)), (5, .int far)]) hx hb dX0_visit_6 hl (by decide) rfl (fun ls hl => ?_)
    refine lv_iload hx hb dX0_visit_8 (lv_at hl 0 rfl) ?_
    refine lv_if_lt (tgt := 34) hx hb dX0_visit_10 (by decide) (fun c_6 => absurd c_6 (nI_pos (by omega))) (fun _ => ?_)
    refine lv_iload hx hb dX0_visit_13 (lv_at hl 0 rfl) ?_
    refine lv_aload_n hx hb dX0_visit_15 rfl (lv_at hl 1 rfl) ?_
    refine va_get (D := D) (ci := 0) (v := .ref pm) (C := RX0) (T := TX0) (N := 3) hx hb hts hiX0 hown hK hP 0 rfl rfl 0 (by decide) (hts (.fieldLink RX0 9 "CraneReach$Plan" "moves" "[I") (by decide +kernel)) (fun _ h9 => h9) rfl dX0_visit_16 ?_
    refine va_alen hx hb hK hP 1 0 rfl rfl (v := 224) rfl dX0_visit_19 ?_
    refine lv_icmp_ge (tgt := 34) hx hb dX0_visit_20 (by decide) (fun c_7 => absurd c_7 (nI_ge (b := 224) hp (by decide))) (fun _ => ?_)
    refine lv_aload_n hx hb dX0_visit_23 rfl (lv_at hl 1 rfl) ?_
    refine va_get (D := D) (ci := 0) (v := .ref pm) (C := RX0) (T := TX0) (N := 3) hx hb hts hiX0 hown hK hP 0 rfl rfl 0 (by decide) (hts (.fieldLink RX0 9 "CraneReach$Plan" "moves" "[I") (by decide +kernel)) (fun _ h9 => h9) rfl dX0_visit_24 ?_
    refine lv_iload hx hb dX0_visit_27 (lv_at hl 0 rfl) ?_
    refine va_iald hx hb hK hP 1 0 rfl rfl (vp_in_nI hp (by decide)) dX0_visit_29 ?_
    refine c_top (show (fm (nI (plc d r)).toNatClampNeg) = fm (plc d r) from by rw [nI_clamp (by omega)]) ?_
    refine c_top (show (fm (plc d r)) = S.1 (8 * r + d) from hC.1 d r hd cr.1 cr.2) ?_
    refine lv_iconst (v := -1) hx hb dX0_visit_30 (by decide) ?_
    refine lv_icmp_eq (tgt := 35) hx hb dX0_visit_31 (by decide) (fun c_8 => ?_) (fun c_8 => ?_)
    · have hn := bInv_room hI (c := 8 * r + d) (by omega) c_8
      refine lv_aload_n hx hb dX0_visit_35 rfl (lv_at hl 1 rfl) ?_
      refine va_get (D := D) (ci := 0) (v := .int (nI S.2.2)) (C := RX0) (T := TX0) (N := 3) hx hb hts hiX0 hown hK hP 0 rfl rfl 2 (by decide) (hts (.fieldLink RX0 18 "CraneReach$Plan" "places" "I") (by decide +kernel)) (fun _ h9 => h9) rfl dX0_visit_36 ?_
      refine lv_if_lt (tgt := 95) hx hb dX0_visit_39 (by decide) (fun c_9 => absurd c_9 (nI_pos (by omega))) (fun _ => ?_)
      refine lv_aload_n hx hb dX0_visit_42 rfl (lv_at hl 1 rfl) ?_
      refine va_get (D := D) (ci := 0) (v := .int (nI S.2.2)) (C := RX0) (T := TX0) (N := 3) hx hb hts hiX0 hown hK hP 0 rfl rfl 2 (by decide) (hts (.fieldLink RX0 18 "CraneReach$Plan" "places" "I") (by decide +kernel)) (fun _ h9 => h9) rfl dX0_visit_43 ?_
      refine lv_aload_n hx hb dX0_visit_46 rfl (lv_at hl 1 rfl) ?_
      refine va_get (D := D) (ci := 0) (v := .ref pf) (C := RX0) (T := TX0) (N := 3) hx hb hts hiX0 hown hK hP 0 rfl rfl 1 (by decide) (hts (.fieldLink RX0 15 "CraneReach$Plan" "found" "[I") (by decide +kernel)) (fun _ h9 => h9) rfl dX0_visit_47 ?_
      refine va_alen hx hb hK hP 2 0 rfl rfl (v := 224) rfl dX0_visit_50 ?_
      refine lv_icmp_ge (tgt := 95) hx hb dX0_visit_51 (by decide) (fun c_10 => absurd c_10 (nI_ge (b := 224) hn (by decide))) (fun _ => ?_)
      refine lv_aload_n hx hb dX0_visit_54 rfl (lv_at hl 2 rfl) ?_
      refine lv_iload_n hx hb dX0_visit_55 rfl (lv_at hl 3 rfl) ?_
      refine lv_iload_n hx hb dX0_visit_56 rfl (lv_at hl 4 rfl) ?_
      refine lv_iload hx hb dX0_visit_57 (lv_at hl 5 rfl) ?_
      have hPc := hP.sub (ws' := [(rg, .inr (1, [.ref ro, .ref rl, .int pl])), (ro, .inl (cI, 4, .inl fo)), (rl, .inl (cI, 28, .inl (sh fl)))]) [3, 4, 5] rfl
      have hDc : va_D (fun q : Nat => L0 ≤ q) [(rg, .inr (1, [.ref ro, .ref rl, .int pl])), (ro, .inl (cI, 4, .inl fo)), (rl, .inl (cI, 28, .inl (sh fl)))] := (hD.sub (ws' := [(rg, .inr (1, [.ref ro, .ref rl, .int pl])), (ro, .inl (cI, 4, .inl fo)), (rl, .inl (cI, 28, .inl (sh fl)))]) [3, 4, 5] (by decide) rfl).weaken (fun _ z9 _ h9 => hAL _ h9)
      have hKc := hK.sub (tys' := [(cI, .int)]) [0] rfl
      refine c_callR (va_runV (As := [.int tons, .int (nI d), .int (nI r)]) (rest := []) ⟨hx, hb, hml, hown, hts⟩ (k_isSafe l D L0 cI rg ro rl pl fo fl d r tons hd cr) (cwV 3 hts gX0_visit_X1_isSafe rfl rfl rfl (by decide +kernel) ⟨Nat.le_of_ble_eq_true rfl, Nat.le_of_ble_eq_true rfl⟩) ⟨cP_blind, va_recv hKc hPc (ci := 1) (q0 := 0) rfl rfl, cP_of hPc hKc hDc (kE_at hE0 hAL hS)⟩ rfl rfl hl.1 rfl (lv_room (Nat.le_of_ble_eq_true rfl)) dX0_visit_59 ⟨Nat.le_of_ble_eq_true rfl, Nat.le_of_ble_eq_true rfl⟩) ?_
      show W _ _ _ _ _ _ _ _ _ _ _ _ _ _ _ (F0 m 62 ls [.int (bI (safS fo fl pl tons d r))])
      obtain ⟨b0, hb0⟩ : ∃ b0 : Bool, b0 = safS fo fl pl tons d r := ⟨_, rfl⟩
      refine c_top (show (bI (safS fo fl pl tons d r)) = bI b0 from by rw [hb0]) ?_
      refine lv_if_eq (tgt := 95) hx hb dX0_visit_62 (by decide) (fun c_11 => ?_) (fun c_11 => ?_)
      · exact W.vret hx hb hRt (fun t ht hW => ⟨⟨rfl, by rw [ht]; exact by rw [vis_no (fun z => by rw [← hb0] at z; rw [z.2.2] at c_11; exact absurd c_11 (by decide))]; exact ⟨fm, ff, hC, hP⟩⟩, hS.F ht⟩) hS.2.2 dX0_visit_95
      · have hs : safS fo fl pl tons d r = true := by
          rw [← hb0]; cases b0 with | true => rfl | false => exact absurd rfl c_11
        have hy : (3 ≤ r ∧ r ≤ 30) ∧ S.1 (8 * r + d) = -1 ∧ safS fo fl pl tons d r = true := ⟨cr, c_8, hs⟩
        refine lv_aload_n hx hb dX0_visit_65 rfl (lv_at hl 1 rfl) ?_
        refine va_get (D := D) (ci := 0) (v := .ref pm) (C := RX0) (T := TX0) (N := 3) hx hb hts hiX0 hown hK hP 0 rfl rfl 0 (by decide) (hts (.fieldLink RX0 9 "CraneReach$Plan" "moves" "[I") (by decide +kernel)) (fun _ h9 => h9) rfl dX0_visit_66 ?_
        refine lv_iload hx hb dX0_visit_69 (lv_at hl 0 rfl) ?_
        refine lv_iload hx hb dX0_visit_71 (lv_at hl 6 rfl) ?_
        refine va_iast hx hb hK hP hD hS 1 0 rfl rfl (vp_in_nI hp (by decide)) dX0_visit_73 (fun H locs hP hD hS => ?_)
        have hP : va_P D vwCl [(pn, .inr (0, [.ref pm, .ref pf, .int (nI S.2.2)])), (pm, .inl (cI, 224, .inl (upd fm (nI (plc d r)).toNatClampNeg far))), (pf, .inl (cI, 224, .inl ff)), (rg, .inr (1, [.ref ro, .ref rl, .int pl])), (ro, .inl (cI, 4, .inl fo)), (rl, .inl (cI, 28, .inl (sh fl)))] H := hP
        have hD : va_D A [(pn, .inr (0, [.ref pm, .ref pf, .int (nI S.2.2)])), (pm, .inl (cI, 224, .inl (upd fm (nI (plc d r)).toNatClampNeg far))), (pf, .inl (cI, 224, .inl ff)), (rg, .inr (1, [.ref ro, .ref rl, .int pl])), (ro, .inl (cI, 4, .inl fo)), (rl, .inl (cI, 28, .inl (sh fl)))] := hD
        rw [show (nI (plc d r)).toNatClampNeg = (plc d r) from nI_clamp (by omega)] at hP hD
        have hP : va_P D vwCl [(pn, .inr (0, [.ref pm, .ref pf, .int (nI S.2.2)])), (pm, .inl (cI, 224, .inl (upd fm (plc d r) far))), (pf, .inl (cI, 224, .inl ff)), (rg, .inr (1, [.ref ro, .ref rl, .int pl])), (ro, .inl (cI, 4, .inl fo)), (rl, .inl (cI, 28, .inl (sh fl)))] H := hP
        have hD : va_D A [(pn, .inr (0, [.ref pm, .ref pf, .int (nI S.2.2)])), (pm, .inl (cI, 224, .inl (upd fm (plc d r) far))), (pf, .inl (cI, 224, .inl ff)), (rg, .inr (1, [.ref ro, .ref rl, .int pl])), (ro, .inl (cI, 4, .inl fo)), (rl, .inl (cI, 28, .inl (sh fl)))] := hD
        refine lv_aload_n hx hb dX0_visit_74 rfl (lv_at hl 1 rfl) ?_
        refine va_get (D := D) (ci := 0) (v := .ref pf) (C := RX0) (T := TX0) (N := 3) hx hb hts hiX0 hown hK hP 0 rfl rfl 1 (by decide) (hts (.fieldLink RX0 15 "CraneReach$Plan" "found" "[I") (by decide +kernel)) (fun _ h9 => h9) rfl dX0_visit_75 ?_
        refine lv_aload_n hx hb dX0_visit_78 rfl (lv_at hl 1 rfl) ?_
        refine va_get (D := D) (ci := 0) (v := .int (nI S.2.2)) (C := RX0) (T := TX0) (N := 3) hx hb hts hiX0 hown hK hP 0 rfl rfl 2 (by decide) (hts (.fieldLink RX0 18 "CraneReach$Plan" "places" "I") (by decide +kernel)) (fun _ h9 => h9) rfl dX0_visit_79 ?_
        refine lv_iload hx hb dX0_visit_82 (lv_at hl 0 rfl) ?_
        refine va_iast hx hb hK hP hD hS 2 0 rfl rfl (vp_in_nI hn (by decide)) dX0_visit_84 (fun H locs hP hD hS => ?_)
        have hP : va_P D vwCl [(pn, .inr (0, [.ref pm, .ref pf, .int (nI S.2.2)])), (pm, .inl (cI, 224, .inl (upd fm (plc d r) far))), (pf, .inl (cI, 224, .inl (upd ff (nI S.2.2).toNatClampNeg (nI (plc d r))))), (rg, .inr (1, [.ref ro, .ref rl, .int pl])), (ro, .inl (cI, 4, .inl fo)), (rl, .inl (cI, 28, .inl (sh fl)))] H := hP
        have hD : va_D A [(pn, .inr (0, [.ref pm, .ref pf, .int (nI S.2.2)])), (pm, .inl (cI, 224, .inl (upd fm (plc d r) far))), (pf, .inl (cI, 224, .inl (upd ff (nI S.2.2).toNatClampNeg (nI (plc d r))))), (rg, .inr (1, [.ref ro, .ref rl, .int pl])), (ro, .inl (cI, 4, .inl fo)), (rl, .inl (cI, 28, .inl (sh fl)))] := hD
        rw [show (nI S.2.2).toNatClampNeg = S.2.2 from nI_clamp (by omega)] at hP hD
        have hP : va_P D vwCl [(pn, .inr (0, [.ref pm, .ref pf, .int (nI S.2.2)])), (pm, .inl (cI, 224, .inl (upd fm (plc d r) far))), (pf, .inl (cI, 224, .inl (upd ff S.2.2 (nI (plc d r))))), (rg, .inr (1, [.ref ro, .ref rl, .int pl])), (ro, .inl (cI, 4, .inl fo)), (rl, .inl (cI, 28, .inl (sh fl)))] H := hP
        have hD : va_D A [(pn, .inr (0, [.ref pm, .ref pf, .int (nI S.2.2)])), (pm, .inl (cI, 224, .inl (upd fm (plc d r) far))), (pf, .inl (cI, 224, .inl (upd ff S.2.2 (nI (plc d r))))), (rg, .inr (1, [.ref ro, .ref rl, .int pl])), (ro, .inl (cI, 4, .inl fo)), (rl, .inl (cI, 28, .inl (sh fl)))] := hD
        refine lv_aload_n hx hb dX0_visit_85 rfl (lv_at hl 1 rfl) ?_
        refine lv_dup hx hb dX0_visit_86 rfl ?_
        refine va_get (D := D) (ci := 0) (v := .int (nI S.2.2)) (C := RX0) (T := TX0) (N := 3) hx hb hts hiX0 hown hK hP 0 rfl rfl 2 (by decide) (hts (.fieldLink RX0 18 "CraneReach$Plan" "places" "I") (by decide +kernel)) (fun _ h9 => h9) rfl dX0_visit_87 ?_
        refine lv_iconst (v := 1) hx hb dX0_visit_90 (by decide) ?_
        refine lv_iadd hx hb dX0_visit_91 ?_
        refine c_top (show ((nI S.2.2) + 1) = nI (S.2.2 + 1) from nI_1 _) ?_
        refine va_put (D := D) (ci := 0) (v := .int (nI (S.2.2 + 1))) (ty := .int) (C := RX0) (T := TX0) (N := 3) hx hb hts hiX0 tyX0 tyX0_ok nmX0 hown hK hP hD hS 0 rfl rfl 2 (by decide) (hts (.fieldLink RX0 18 "CraneReach$Plan" "places" "I") (by decide +kernel)) (fun _ h9 => h9) rfl (by decide +kernel) rfl rfl (Nat.le_of_ble_eq_true rfl) dX0_visit_92 (fun H locs hP hD hS => ?_)
        have hP : va_P D vwCl [(pn, .inr (0, [.ref pm, .ref pf, .int (nI (S.2.2 + 1))])), (pm, .inl (cI, 224, .inl (upd fm (plc d r) far))), (pf, .inl (cI, 224, .inl (upd ff S.2.2 (nI (plc d r))))), (rg, .inr (1, [.ref ro, .ref rl, .int pl])), (ro, .inl (cI, 4, .inl fo)), (rl, .inl (cI, 28, .inl (sh fl)))] H := hP
        have hD : va_D A [(pn, .inr (0, [.ref pm, .ref pf, .int (nI (S.2.2 + 1))])), (pm, .inl (cI, 224, .inl (upd fm (plc d r) far))), (pf, .inl (cI, 224, .inl (upd ff S.2.2 (nI (plc d r))))), (rg, .inr (1, [.ref ro, .ref rl, .int pl])), (ro, .inl (cI, 4, .inl fo)), (rl, .inl (cI, 28, .inl (sh fl)))] := hD
        exact W.vret hx hb hRt (fun t ht hW => ⟨⟨rfl, by rw [ht]; exact by rw [vis_yes hy]; exact ⟨_, _, vis_yes hy ▸ bC_vis hC hd hy, hP⟩⟩, hS.F ht⟩) hS.2.2 dX0_visit_95
    · exact W.vret hx hb hRt (fun t ht hW => ⟨⟨rfl, by rw [ht]; exact by rw [vis_no (fun z => c_8 z.2.1)]; exact ⟨fm, ff, hC, hP⟩⟩, hS.F ht⟩) hS.2.2 dX0_visit_34
  · refine c_top (show ((if 3 ≤ r ∧ r ≤ 30 then nI (plc d r) else -1)) = -1 from if_neg cr) ?_
    refine lv_istore (lv' := [(6, .int (-1)), (0, .ref pn), (1, .ref rg), (2, .int tons), (3, .int (nI d)), (4, .int (nI r)), (5, .int far)]) hx hb dX0_visit_6 hl (by decide) rfl (fun ls hl => ?_)
    refine lv_iload hx hb dX0_visit_8 (lv_at hl 0 rfl) ?_
    refine lv_if_lt (tgt := 34) hx hb dX0_visit_10 (by decide) (fun _ => ?_) (fun c_5 => absurd (by decide) c_5)
    exact W.vret hx hb hRt (fun t ht hW => ⟨⟨rfl, by rw [ht]; exact by rw [vis_no (fun z => cr z.1)]; exact ⟨fm, ff, hC, hP⟩⟩, hS.F ht⟩) hS.2.2 dX0_visit_34
theorem vis_invF {sf : Nat → Nat → Bool} {far : Int32} {d r k : Nat} {S : bS} (hf : far = nI k) (h : bInv S) (hd : d < 8) (hk : k ≤ S.2.2) : bInv (vis sf far d r S) := by rw [hf]; exact vis_inv h hd hk
set_option maxHeartbeats 4000000 in
set_option maxRecDepth 100000 in
/-- visitBeside(rig, tons, place) -/
theorem k_visitBeside (l : Launch) (D : va_G) (L0 : Nat) (cI : ClassId) (pn pm pf rg ro rl : Nat) (fm ff : Nat → Int32) (pl : Int32) (fo fl : Nat → Int32) (tons : Int32) (S : bS) (i ct : Nat) (hI : bInv S) (hC : bC S fm ff) (hi : i < S.2.2) (hc : S.2.1 i = ct) : Met l yX0_visitBeside wsX0_visitBeside ({ frames := 4, cells := 0, slots := 0, locals := 97 }) (cP L0 D [(cI, .int)] [(pn, .inr (0, [.ref pm, .ref pf, .int (nI S.2.2)])), (pm, .inl (cI, 224, .inl fm)), (pf, .inl (cI, 224, .inl ff)), (rg, .inr (1, [.ref ro, .ref rl, .int pl])), (ro, .inl (cI, 4, .inl fo)), (rl, .inl (cI, 28, .inl (sh fl)))] [.ref pn, .ref rg, .int tons, .int (nI (plc (ct % 8) (ct / 8)))]) (cB none (fun H => ∃ fm9 ff9 : Nat → Int32, bC (vis4 (safS fo fl pl tons) ct S) fm9 ff9 ∧ va_P D vwCl [(pn, .inr (0, [.ref pm, .ref pf, .int (nI (vis4 (safS fo fl pl tons) ct S).2.2)])), (pm, .inl (cI, 224, .inl fm9)), (pf, .inl (cI, 224, .inl ff9)), (rg, .inr (1, [.ref ro, .ref rl, .int pl])), (ro, .inl (cI, 4, .inl fo)), (rl, .inl (cI, 28, .inl (sh fl)))] H) (cA [(pn, .inr (0, [.ref pm, .ref pf, .int (nI S.2.2)])), (pm, .inl (cI, 224, .inl fm)), (pf, .inl (cI, 224, .inl ff)), (rg, .inr (1, [.ref ro, .ref rl, .int pl])), (ro, .inl (cI, 4, .inl fo)), (rl, .inl (cI, 28, .inl (sh fl)))])) 0 0 (cA [(pn, .inr (0, [.ref pm, .ref pf, .int (nI S.2.2)])), (pm, .inl (cI, 224, .inl fm)), (pf, .inl (cI, 224, .inl ff)), (rg, .inr (1, [.ref ro, .ref rl, .int pl])), (ro, .inl (cI, 4, .inl fo)), (rl, .inl (cI, 28, .inl (sh fl)))]) := by
  refine Met.ofW (cc := cX0_visitBeside) (maxL := 7) (ret := none) (by decide) rfl ?_
  intro p e s m args below meth c s₁ B hml hv
  obtain ⟨rfl, hP, hK, hD0, hE0⟩ := hv
  have hx := B.exec
  have hb := B.bytes
  have hRt := B.returns
  have hts := atoms_spec (ws := wsX0_visitBeside) B.pre
  have hown : s.vm.findClass RX0 = some m.cls := findClass_of_methodNamed B.named
  have hlocks := B.notSynchronized
  have hAL : ∀ z9 : Nat, cA [(pn, .inr (0, [.ref pm, .ref pf, .int (nI S.2.2)])), (pm, .inl (cI, 224, .inl fm)), (pf, .inl (cI, 224, .inl ff)), (rg, .inr (1, [.ref ro, .ref rl, .int pl])), (ro, .inl (cI, 4, .inl fo)), (rl, .inl (cI, 28, .inl (sh fl)))] z9 → L0 ≤ z9 := fun z9 ⟨k9, e9, h9⟩ => hD0.2 k9 (z9, e9) h9
  have hD : va_D (cA [(pn, .inr (0, [.ref pm, .ref pf, .int (nI S.2.2)])), (pm, .inl (cI, 224, .inl fm)), (pf, .inl (cI, 224, .inl ff)), (rg, .inr (1, [.ref ro, .ref rl, .int pl])), (ro, .inl (cI, 4, .inl fo)), (rl, .inl (cI, 28, .inl (sh fl)))]) [(pn, .inr (0, [.ref pm, .ref pf, .int (nI S.2.2)])), (pm, .inl (cI, 224, .inl fm)), (pf, .inl (cI, 224, .inl ff)), (rg, .inr (1, [.ref ro, .ref rl, .int pl])), (ro, .inl (cI, 4, .inl fo)), (rl, .inl (cI, 28, .inl (sh fl)))] := ⟨hD0.1, fun k9 z9 h9 => cA_of h9⟩
  generalize hAe : cA [(pn, .inr (0, [.ref pm, .ref pf, .int (nI S.2.2)])), (pm, .inl (cI, 224, .inl fm)), (pf, .inl (cI, 224, .inl ff)), (rg, .inr (1, [.ref ro, .ref rl, .int pl])), (ro, .inl (cI, 4, .inl fo)), (rl, .inl (cI, 28, .inl (sh fl)))] = A at hD hAL ⊢
  have hS : va_S A s.heap s.heap [] := va_S.rf
  have hiX0 : ∀ w ∈ u_ws RX0 TX0 3, w ∈ wsX0_visitBeside := by decide +kernel
  have hiX1 : ∀ w ∈ u_ws RX1 TX1 3, w ∈ wsX0_visitBeside := by decide +kernel
  have hl := lv_entry ([.ref pn, .ref rg, .int tons, .int (nI (plc (ct % 8) (ct / 8)))]) (n := 7) (Nat.le_of_ble_eq_true rfl)
  rw [lg_entry_eq]
  generalize (lg_sl ([.ref pn, .ref rg, .int tons, .int (nI (plc (ct % 8) (ct / 8)))]) ++ List.replicate (7 - (lg_sl ([.ref pn, .ref rg, .int tons, .int (nI (plc (ct % 8) (ct / 8)))])).length) Slot.unset).toArray = ls at hl ⊢
  have hl : lv_has ls 7 [(0, .ref pn), (1, .ref rg), (2, .int tons), (3, .int (nI (plc (ct % 8) (ct / 8))))] := hl
  obtain ⟨hc1, hc2, -⟩ := hI.1 i hi
  obtain ⟨k, hk1, hk2, hk3⟩ := bInv_far hI hi
  rw [hc] at hc1 hc2 hk2 hk3
  have hd : ct % 8 < 8 := Nat.mod_lt _ (by decide)
  have hr : 3 ≤ ct / 8 ∧ ct / 8 ≤ 30 := by omega
  have e8 : 8 * (ct / 8) + ct % 8 = ct := by omega
  have hp := plc_lt hd hr
  refine lv_iload_n hx hb dX0_visitBeside_0 rfl (lv_at hl 3 rfl) ?_
  refine lv_if_lt (tgt := 13) hx hb dX0_visitBeside_1 (by decide) (fun c_12 => absurd c_12 (nI_pos (by omega))) (fun _ => ?_)
  refine lv_iload_n hx hb dX0_visitBeside_4 rfl (lv_at hl 3 rfl) ?_
  refine lv_aload_n hx hb dX0_visitBeside_5 rfl (lv_at hl 0 rfl) ?_
  refine va_get (D := D) (ci := 0) (v := .ref pm) (C := RX0) (T := TX0) (N := 3) hx hb hts hiX0 hown hK hP 0 rfl rfl 0 (by decide) (hts (.fieldLink RX0 9 "CraneReach$Plan" "moves" "[I") (by decide +kernel)) (fun _ h9 => h9) rfl dX0_visitBeside_6 ?_
  refine va_alen hx hb hK hP 1 0 rfl rfl (v := 224) rfl dX0_visitBeside_9 ?_
  refine lv_icmp_lt (tgt := 14) hx hb dX0_visitBeside_10 (by decide) (fun _ => ?_) (fun c_13 => absurd (nI_lt (b := 224) hp (by decide)) c_13)
  refine lv_iload_n hx hb dX0_visitBeside_14 rfl (lv_at hl 3 rfl) ?_
  refine lv_bipush (v := 28) hx hb dX0_visitBeside_15 (by decide) ?_
  refine lv_idiv hx hb dX0_visitBeside_17 (by decide) ?_
  refine c_top (show ((nI (plc (ct % 8) (ct / 8))) / 28) = nI (ct % 8) from plc_d hd hr) ?_
  refine lv_istore (lv' := [(4, .int (nI (ct % 8))), (0, .ref pn), (1, .ref rg), (2, .int tons), (3, .int (nI (plc (ct % 8) (ct / 8))))]) hx hb dX0_visitBeside_18 hl (by decide) rfl (fun ls hl => ?_)
  refine lv_iload_n hx hb dX0_visitBeside_20 rfl (lv_at hl 4 rfl) ?_
  refine lv_bipush (v := 28) hx hb dX0_visitBeside_21 (by decide) ?_
  refine lv_irem hx hb dX0_visitBeside_23 (by decide) ?_
  refine lv_iconst (v := 3) hx hb dX0_visitBeside_24 (by decide) ?_
  refine lv_iadd hx hb dX0_visitBeside_25 ?_
  refine c_top (show (((nI (plc (ct % 8) (ct / 8))) - (nI (plc (ct % 8) (ct / 8))) / 28 * 28) + 3) = nI (ct / 8) from plc_r hd hr) ?_
  refine lv_istore (lv' := [(5, .int (nI (ct / 8))), (4, .int (nI (ct % 8))), (0, .ref pn), (1, .ref rg), (2, .int tons), (3, .int (nI (plc (ct % 8) (ct / 8))))]) hx hb dX0_visitBeside_26 hl (by decide) rfl (fun ls hl => ?_)
  refine lv_aload_n hx hb dX0_visitBeside_28 rfl (lv_at hl 2 rfl) ?_
  refine va_get (D := D) (ci := 0) (v := .ref pm) (C := RX0) (T := TX0) (N := 3) hx hb hts hiX0 hown hK hP 0 rfl rfl 0 (by decide) (hts (.fieldLink RX0 9 "CraneReach$Plan" "moves" "[I") (by decide +kernel)) (fun _ h9 => h9) rfl dX0_visitBeside_29 ?_
  refine lv_iload_n hx hb dX0_visitBeside_32 rfl (lv_at hl 5 rfl) ?_
  refine va_iald hx hb hK hP 1 0 rfl rfl (vp_in_nI hp (by decide)) dX0_visitBeside_33 ?_
  refine c_top (show (fm (nI (plc (ct % 8) (ct / 8))).toNatClampNeg) = fm (plc (ct % 8) (ct / 8)) from by rw [nI_clamp (by omega)]) ?_
  refine c_top (show (fm (plc (ct % 8) (ct / 8))) = S.1 ct from (hC.1 _ _ hd hr.1 hr.2).trans (by rw [e8])) ?_
  refine lv_iconst (v := 1) hx hb dX0_visitBeside_34 (by decide) ?_
  refine lv_iadd hx hb dX0_visitBeside_35 ?_
  refine lv_istore (lv' := [(6, .int ((S.1 ct) + 1)), (5, .int (nI (ct / 8))), (4, .int (nI (ct % 8))), (0, .ref pn), (1, .ref rg), (2, .int tons), (3, .int (nI (plc (ct % 8) (ct / 8))))]) hx hb dX0_visitBeside_36 hl (by decide) rfl (fun ls hl => ?_)
  refine lv_aload_n hx hb dX0_visitBeside_38 rfl (lv_at hl 3 rfl) ?_
  refine lv_aload_n hx hb dX0_visitBeside_39 rfl (lv_at hl 4 rfl) ?_
  refine lv_iload_n hx hb dX0_visitBeside_40 rfl (lv_at hl 5 rfl) ?_
  refine lv_iload hx hb dX0_visitBeside_41 (lv_at hl 2 rfl) ?_
  refine lv_iconst (v := 1) hx hb dX0_visitBeside_43 (by decide) ?_
  have hPc := hP.sub (ws' := []) [] rfl
  have hDc : va_D (fun q : Nat => L0 ≤ q) [] := (hD.sub (ws' := []) [] (by decide) rfl).weaken (fun _ z9 _ h9 => hAL _ h9)
  have hKc := hK.sub (tys' := []) [] rfl
  refine c_callR (va_runSN (As := [.int (nI (ct % 8)), .int 1]) (rest := [.int tons, .ref rg, .ref pn]) ⟨hx, hb, hml, hown, hts⟩ (k_turned l D L0 (nI (ct % 8)) (1)) (⟨va_cnB 2 hts gX0_visitBeside_X2_turned_n34 rfl rfl rfl (hE0.2.2.2.2.2.1.2.1) (hts (.initialized RX2) (by decide +kernel)) (by decide +kernel) ⟨Nat.le_of_ble_eq_true rfl, Nat.le_of_ble_eq_true rfl⟩, hts (.static yX2_turned) (by decide +kernel), trivial⟩) ⟨cP_blind, cP_of hPc hKc hDc (kE_at hE0 hAL hS)⟩ rfl rfl hl.1 rfl (lv_room (Nat.le_of_ble_eq_true rfl)) dX0_visitBeside_44 ⟨Nat.le_of_ble_eq_true rfl, Nat.le_of_ble_eq_true rfl⟩) ?_
  show W _ _ _ _ _ _ _ _ _ _ _ _ _ _ _ (F0 m 47 ls [.int (tnI (nI (ct % 8)) (1)), .int tons, .ref rg, .ref pn])
  refine c_top (show (tnI (nI (ct % 8)) (1)) = nI ((ct % 8 + 1) % 8) from tn_1 _ hd) ?_
  refine lv_iload hx hb dX0_visitBeside_47 (lv_at hl 1 rfl) ?_
  refine lv_iload hx hb dX0_visitBeside_49 (lv_at hl 0 rfl) ?_
  have hPc := hP.sub (ws' := [(pn, .inr (0, [.ref pm, .ref pf, .int (nI S.2.2)])), (pm, .inl (cI, 224, .inl fm)), (pf, .inl (cI, 224, .inl ff)), (rg, .inr (1, [.ref ro, .ref rl, .int pl])), (ro, .inl (cI, 4, .inl fo)), (rl, .inl (cI, 28, .inl (sh fl)))]) [0, 1, 2, 3, 4, 5] rfl
  have hDc : va_D (fun q : Nat => L0 ≤ q) [(pn, .inr (0, [.ref pm, .ref pf, .int (nI S.2.2)])), (pm, .inl (cI, 224, .inl fm)), (pf, .inl (cI, 224, .inl ff)), (rg, .inr (1, [.ref ro, .ref rl, .int pl])), (ro, .inl (cI, 4, .inl fo)), (rl, .inl (cI, 28, .inl (sh fl)))] := (hD.sub (ws' := [(pn, .inr (0, [.ref pm, .ref pf, .int (nI S.2.2)])), (pm, .inl (cI, 224, .inl fm)), (pf, .inl (cI, 224, .inl ff)), (rg, .inr (1, [.ref ro, .ref rl, .int pl])), (ro, .inl (cI, 4, .inl fo)), (rl, .inl (cI, 28, .inl (sh fl)))]) [0, 1, 2, 3, 4, 5] (by decide) rfl).weaken (fun _ z9 _ h9 => hAL _ h9)
  have hKc := hK.sub (tys' := [(cI, .int)]) [0] rfl
  refine c_callB (va_runV (As := [.ref rg, .int tons, .int (nI ((ct % 8 + 1) % 8)), .int (nI (ct / 8)), .int ((S.1 ct) + 1)]) (rest := []) ⟨hx, hb, hml, hown, hts⟩ (k_visit l D L0 cI pn pm pf rg ro rl fm ff pl fo fl tons (S.1 ct + 1) (S) ((ct % 8 + 1) % 8) (ct / 8) (k + 1) (Nat.mod_lt _ (by decide)) (by omega) hI hC hk3 (by omega)) (cwV 5 hts gX0_visitBeside_X0_visit rfl rfl rfl (by decide +kernel) ⟨Nat.le_of_ble_eq_true rfl, Nat.le_of_ble_eq_true rfl⟩) ⟨cP_blind, va_recv hKc hPc (ci := 0) (q0 := 0) rfl rfl, cP_of hPc hKc hDc (kE_at hE0 hAL hS)⟩ rfl rfl hl.1 rfl (lv_room (Nat.le_of_ble_eq_true rfl)) dX0_visitBeside_51 ⟨Nat.le_of_ble_eq_true rfl, Nat.le_of_ble_eq_true rfl⟩) hS (fun z9 _ ⟨k9, e9, h9⟩ => (hD.sub (ws' := [(pn, .inr (0, [.ref pm, .ref pf, .int (nI S.2.2)])), (pm, .inl (cI, 224, .inl fm)), (pf, .inl (cI, 224, .inl ff)), (rg, .inr (1, [.ref ro, .ref rl, .int pl])), (ro, .inl (cI, 4, .inl fo)), (rl, .inl (cI, 28, .inl (sh fl)))]) [0, 1, 2, 3, 4, 5] (by decide) rfl).2 k9 (z9, e9) h9) (fun z9 ⟨k9, e9, h9⟩ => (hD.sub (ws' := [(pn, .inr (0, [.ref pm, .ref pf, .int (nI S.2.2)])), (pm, .inl (cI, 224, .inl fm)), (pf, .inl (cI, 224, .inl ff)), (rg, .inr (1, [.ref ro, .ref rl, .int pl])), (ro, .inl (cI, 4, .inl fo)), (rl, .inl (cI, 28, .inl (sh fl)))]) [0, 1, 2, 3, 4, 5] (by decide) rfl).2 k9 (z9, e9) h9) (fun H1 locs hB hz1 hk1 hS => ?_)
  obtain ⟨fm1, ff1, hC1, hB⟩ := hB
  obtain ⟨hP, hD⟩ := c_join (ws' := [(pn, .inr (0, [.ref pm, .ref pf, .int (nI (vis (safS fo fl pl tons) (S.1 ct + 1) ((ct % 8 + 1) % 8) (ct / 8) (S)).2.2)])), (pm, .inl (cI, 224, .inl fm1)), (pf, .inl (cI, 224, .inl ff1)), (rg, .inr (1, [.ref ro, .ref rl, .int pl])), (ro, .inl (cI, 4, .inl fo)), (rl, .inl (cI, 28, .inl (sh fl)))]) (wr := []) (w1 := [(pn, .inr (0, [.ref pm, .ref pf, .int (nI (vis (safS fo fl pl tons) (S.1 ct + 1) ((ct % 8 + 1) % 8) (ct / 8) (S)).2.2)])), (pm, .inl (cI, 224, .inl fm1)), (pf, .inl (cI, 224, .inl ff1)), (rg, .inr (1, [.ref ro, .ref rl, .int pl])), (ro, .inl (cI, 4, .inl fo)), (rl, .inl (cI, 28, .inl (sh fl)))]) hP hD [0, 1, 2, 3, 4, 5] [] [0, 1, 2, 3, 4, 5] rfl rfl (by decide) (by decide) hk1 hB rfl rfl rfl (by decide)
  generalize H1 = H at hP hS ⊢
  show W _ _ _ _ _ _ _ _ _ _ _ _ _ _ _ (F0 m 54 ls [])
  have hI1 : bInv (vis (safS fo fl pl tons) (S.1 ct + 1) ((ct % 8 + 1) % 8) (ct / 8) (S)) := vis_invF hk3 hI (Nat.mod_lt _ (by decide)) (by omega)
  have hn1 := (vis_n (sf := safS fo fl pl tons) (far := (S.1 ct + 1)) (d := ((ct % 8 + 1) % 8)) (r := (ct / 8)) (S := S)).1
  refine lv_aload_n hx hb dX0_visitBeside_54 rfl (lv_at hl 3 rfl) ?_
  refine lv_aload_n hx hb dX0_visitBeside_55 rfl (lv_at hl 4 rfl) ?_
  refine lv_iload_n hx hb dX0_visitBeside_56 rfl (lv_at hl 5 rfl) ?_
  refine lv_iload hx hb dX0_visitBeside_57 (lv_at hl 2 rfl) ?_
  refine lv_iconst (v := -1) hx hb dX0_visitBeside_59 (by decide) ?_
  have hPc := hP.sub (ws' := []) [] rfl
  have hDc : va_D (fun q : Nat => L0 ≤ q) [] := (hD.sub (ws' := []) [] (by decide) rfl).weaken (fun _ z9 _ h9 => hAL _ h9)
  have hKc := hK.sub (tys' := []) [] rfl
  refine c_callR (va_runSN (As := [.int (nI (ct % 8)), .int (-1)]) (rest := [.int tons, .ref rg, .ref pn]) ⟨hx, hb, hml, hown, hts⟩ (k_turned l D L0 (nI (ct % 8)) (-1)) (⟨va_cnB 2 hts gX0_visitBeside_X2_turned_n34 rfl rfl rfl (hE0.2.2.2.2.2.1.2.1) (hts (.initialized RX2) (by decide +kernel)) (by decide +kernel) ⟨Nat.le_of_ble_eq_true rfl, Nat.le_of_ble_eq_true rfl⟩, hts (.static yX2_turned) (by decide +kernel), trivial⟩) ⟨cP_blind, cP_of hPc hKc hDc (kE_at hE0 hAL hS)⟩ rfl rfl hl.1 rfl (lv_room (Nat.le_of_ble_eq_true rfl)) dX0_visitBeside_60 ⟨Nat.le_of_ble_eq_true rfl, Nat.le_of_ble_eq_true rfl⟩) ?_
  show W _ _ _ _ _ _ _ _ _ _ _ _ _ _ _ (F0 m 63 ls [.int (tnI (nI (ct % 8)) (-1)), .int tons, .ref rg, .ref pn])
  refine c_top (show (tnI (nI (ct % 8)) (-1)) = nI ((ct % 8 + 7) % 8) from tn_m _ hd) ?_
  refine lv_iload hx hb dX0_visitBeside_63 (lv_at hl 1 rfl) ?_
  refine lv_iload hx hb dX0_visitBeside_65 (lv_at hl 0 rfl) ?_
  have hPc := hP.sub (ws' := [(pn, .inr (0, [.ref pm, .ref pf, .int (nI (vis (safS fo fl pl tons) (S.1 ct + 1) ((ct % 8 + 1) % 8) (ct / 8) (S)).2.2)])), (pm, .inl (cI, 224, .inl fm1)), (pf, .inl (cI, 224, .inl ff1)), (rg, .inr (1, [.ref ro, .ref rl, .int pl])), (ro, .inl (cI, 4, .inl fo)), (rl, .inl (cI, 28, .inl (sh fl)))]) [0, 1, 2, 3, 4, 5] rfl
  have hDc : va_D (fun q : Nat => L0 ≤ q) [(pn, .inr (0, [.ref pm, .ref pf, .int (nI (vis (safS fo fl pl tons) (S.1 ct + 1) ((ct % 8 + 1) % 8) (ct / 8) (S)).2.2)])), (pm, .inl (cI, 224, .inl fm1)), (pf, .inl (cI, 224, .inl ff1)), (rg, .inr (1, [.ref ro, .ref rl, .int pl])), (ro, .inl (cI, 4, .inl fo)), (rl, .inl (cI, 28, .inl (sh fl)))] := (hD.sub (ws' := [(pn, .inr (0, [.ref pm, .ref pf, .int (nI (vis (safS fo fl pl tons) (S.1 ct + 1) ((ct % 8 + 1) % 8) (ct / 8) (S)).2.2)])), (pm, .inl (cI, 224, .inl fm1)), (pf, .inl (cI, 224, .inl ff1)), (rg, .inr (1, [.ref ro, .ref rl, .int pl])), (ro, .inl (cI, 4, .inl fo)), (rl, .inl (cI, 28, .inl (sh fl)))]) [0, 1, 2, 3, 4, 5] (by decide) rfl).weaken (fun _ z9 _ h9 => hAL _ h9)
  have hKc := hK.sub (tys' := [(cI, .int)]) [0] rfl
  refine c_callB (va_runV (As := [.ref rg, .int tons, .int (nI ((ct % 8 + 7) % 8)), .int (nI (ct / 8)), .int ((S.1 ct) + 1)]) (rest := []) ⟨hx, hb, hml, hown, hts⟩ (k_visit l D L0 cI pn pm pf rg ro rl fm1 ff1 pl fo fl tons (S.1 ct + 1) (vis (safS fo fl pl tons) (S.1 ct + 1) ((ct % 8 + 1) % 8) (ct / 8) (S)) ((ct % 8 + 7) % 8) (ct / 8) (k + 1) (Nat.mod_lt _ (by decide)) (by omega) hI1 hC1 hk3 (by omega)) (cwV 5 hts gX0_visitBeside_X0_visit rfl rfl rfl (by decide +kernel) ⟨Nat.le_of_ble_eq_true rfl, Nat.le_of_ble_eq_true rfl⟩) ⟨cP_blind, va_recv hKc hPc (ci := 0) (q0 := 0) rfl rfl, cP_of hPc hKc hDc (kE_at hE0 hAL hS)⟩ rfl rfl hl.1 rfl (lv_room (Nat.le_of_ble_eq_true rfl)) dX0_visitBeside_67 ⟨Nat.le_of_ble_eq_true rfl, Nat.le_of_ble_eq_true rfl⟩) hS (fun z9 _ ⟨k9, e9, h9⟩ => (hD.sub (ws' := [(pn, .inr (0, [.ref pm, .ref pf, .int (nI (vis (safS fo fl pl tons) (S.1 ct + 1) ((ct % 8 + 1) % 8) (ct / 8) (S)).2.2)])), (pm, .inl (cI, 224, .inl fm1)), (pf, .inl (cI, 224, .inl ff1)), (rg, .inr (1, [.ref ro, .ref rl, .int pl])), (ro, .inl (cI, 4, .inl fo)), (rl, .inl (cI, 28, .inl (sh fl)))]) [0, 1, 2, 3, 4, 5] (by decide) rfl).2 k9 (z9, e9) h9) (fun z9 ⟨k9, e9, h9⟩ => (hD.sub (ws' := [(pn, .inr (0, [.ref pm, .ref pf, .int (nI (vis (safS fo fl pl tons) (S.1 ct + 1) ((ct % 8 + 1) % 8) (ct / 8) (S)).2.2)])), (pm, .inl (cI, 224, .inl fm1)), (pf, .inl (cI, 224, .inl ff1)), (rg, .inr (1, [.ref ro, .ref rl, .int pl])), (ro, .inl (cI, 4, .inl fo)), (rl, .inl (cI, 28, .inl (sh fl)))]) [0, 1, 2, 3, 4, 5] (by decide) rfl).2 k9 (z9, e9) h9) (fun H1 locs hB hz1 hk1 hS => ?_)
  obtain ⟨fm2, ff2, hC2, hB⟩ := hB
  obtain ⟨hP, hD⟩ := c_join (ws' := [(pn, .inr (0, [.ref pm, .ref pf, .int (nI (vis (safS fo fl pl tons) (S.1 ct + 1) ((ct % 8 + 7) % 8) (ct / 8) (vis (safS fo fl pl tons) (S.1 ct + 1) ((ct % 8 + 1) % 8) (ct / 8) (S))).2.2)])), (pm, .inl (cI, 224, .inl fm2)), (pf, .inl (cI, 224, .inl ff2)), (rg, .inr (1, [.ref ro, .ref rl, .int pl])), (ro, .inl (cI, 4, .inl fo)), (rl, .inl (cI, 28, .inl (sh fl)))]) (wr := []) (w1 := [(pn, .inr (0, [.ref pm, .ref pf, .int (nI (vis (safS fo fl pl tons) (S.1 ct + 1) ((ct % 8 + 7) % 8) (ct / 8) (vis (safS fo fl pl tons) (S.1 ct + 1) ((ct % 8 + 1) % 8) (ct / 8) (S))).2.2)])), (pm, .inl (cI, 224, .inl fm2)), (pf, .inl (cI, 224, .inl ff2)), (rg, .inr (1, [.ref ro, .ref rl, .int pl])), (ro, .inl (cI, 4, .inl fo)), (rl, .inl (cI, 28, .inl (sh fl)))]) hP hD [0, 1, 2, 3, 4, 5] [] [0, 1, 2, 3, 4, 5] rfl rfl (by decide) (by decide) hk1 hB rfl rfl rfl (by decide)
  generalize H1 = H at hP hS ⊢
  show W _ _ _ _ _ _ _ _ _ _ _ _ _ _ _ (F0 m 70 ls [])
  have hI2 : bInv (vis (safS fo fl pl tons) (S.1 ct + 1) ((ct % 8 + 7) % 8) (ct / 8) (vis (safS fo fl pl tons) (S.1 ct + 1) ((ct % 8 + 1) % 8) (ct / 8) (S))) := vis_invF hk3 hI1 (Nat.mod_lt _ (by decide)) (by omega)
  have hn2 := (vis_n (sf := safS fo fl pl tons) (far := (S.1 ct + 1)) (d := ((ct % 8 + 7) % 8)) (r := (ct / 8)) (S := vis (safS fo fl pl tons) (S.1 ct + 1) ((ct % 8 + 1) % 8) (ct / 8) (S))).1
  refine lv_aload_n hx hb dX0_visitBeside_70 rfl (lv_at hl 3 rfl) ?_
  refine lv_aload_n hx hb dX0_visitBeside_71 rfl (lv_at hl 4 rfl) ?_
  refine lv_iload_n hx hb dX0_visitBeside_72 rfl (lv_at hl 5 rfl) ?_
  refine lv_iload hx hb dX0_visitBeside_73 (lv_at hl 2 rfl) ?_
  refine lv_iload hx hb dX0_visitBeside_75 (lv_at hl 1 rfl) ?_
  refine lv_iconst (v := 1) hx hb dX0_visitBeside_77 (by decide) ?_
  refine lv_iadd hx hb dX0_visitBeside_78 ?_
  refine lv_iload hx hb dX0_visitBeside_79 (lv_at hl 0 rfl) ?_
  refine W.eq (g2 := F0 m 81 ls [.int ((S.1 ct) + 1), .int (nI (ct / 8 + 1)), .int (nI (ct % 8)), .int tons, .ref rg, .ref pn]) (by rw [nI_1]) ?_
  have hPc := hP.sub (ws' := [(pn, .inr (0, [.ref pm, .ref pf, .int (nI (vis (safS fo fl pl tons) (S.1 ct + 1) ((ct % 8 + 7) % 8) (ct / 8) (vis (safS fo fl pl tons) (S.1 ct + 1) ((ct % 8 + 1) % 8) (ct / 8) (S))).2.2)])), (pm, .inl (cI, 224, .inl fm2)), (pf, .inl (cI, 224, .inl ff2)), (rg, .inr (1, [.ref ro, .ref rl, .int pl])), (ro, .inl (cI, 4, .inl fo)), (rl, .inl (cI, 28, .inl (sh fl)))]) [0, 1, 2, 3, 4, 5] rfl
  have hDc : va_D (fun q : Nat => L0 ≤ q) [(pn, .inr (0, [.ref pm, .ref pf, .int (nI (vis (safS fo fl pl tons) (S.1 ct + 1) ((ct % 8 + 7) % 8) (ct / 8) (vis (safS fo fl pl tons) (S.1 ct + 1) ((ct % 8 + 1) % 8) (ct / 8) (S))).2.2)])), (pm, .inl (cI, 224, .inl fm2)), (pf, .inl (cI, 224, .inl ff2)), (rg, .inr (1, [.ref ro, .ref rl, .int pl])), (ro, .inl (cI, 4, .inl fo)), (rl, .inl (cI, 28, .inl (sh fl)))] := (hD.sub (ws' := [(pn, .inr (0, [.ref pm, .ref pf, .int (nI (vis (safS fo fl pl tons) (S.1 ct + 1) ((ct % 8 + 7) % 8) (ct / 8) (vis (safS fo fl pl tons) (S.1 ct + 1) ((ct % 8 + 1) % 8) (ct / 8) (S))).2.2)])), (pm, .inl (cI, 224, .inl fm2)), (pf, .inl (cI, 224, .inl ff2)), (rg, .inr (1, [.ref ro, .ref rl, .int pl])), (ro, .inl (cI, 4, .inl fo)), (rl, .inl (cI, 28, .inl (sh fl)))]) [0, 1, 2, 3, 4, 5] (by decide) rfl).weaken (fun _ z9 _ h9 => hAL _ h9)
  have hKc := hK.sub (tys' := [(cI, .int)]) [0] rfl
  refine c_callB (va_runV (As := [.ref rg, .int tons, .int (nI (ct % 8)), .int (nI (ct / 8 + 1)), .int ((S.1 ct) + 1)]) (rest := []) ⟨hx, hb, hml, hown, hts⟩ (k_visit l D L0 cI pn pm pf rg ro rl fm2 ff2 pl fo fl tons (S.1 ct + 1) (vis (safS fo fl pl tons) (S.1 ct + 1) ((ct % 8 + 7) % 8) (ct / 8) (vis (safS fo fl pl tons) (S.1 ct + 1) ((ct % 8 + 1) % 8) (ct / 8) (S))) (ct % 8) (ct / 8 + 1) (k + 1) (hd) (by omega) hI2 hC2 hk3 (by omega)) (cwV 5 hts gX0_visitBeside_X0_visit rfl rfl rfl (by decide +kernel) ⟨Nat.le_of_ble_eq_true rfl, Nat.le_of_ble_eq_true rfl⟩) ⟨cP_blind, va_recv hKc hPc (ci := 0) (q0 := 0) rfl rfl, cP_of hPc hKc hDc (kE_at hE0 hAL hS)⟩ rfl rfl hl.1 rfl (lv_room (Nat.le_of_ble_eq_true rfl)) dX0_visitBeside_81 ⟨Nat.le_of_ble_eq_true rfl, Nat.le_of_ble_eq_true rfl⟩) hS (fun z9 _ ⟨k9, e9, h9⟩ => (hD.sub (ws' := [(pn, .inr (0, [.ref pm, .ref pf, .int (nI (vis (safS fo fl pl tons) (S.1 ct + 1) ((ct % 8 + 7) % 8) (ct / 8) (vis (safS fo fl pl tons) (S.1 ct + 1) ((ct % 8 + 1) % 8) (ct / 8) (S))).2.2)])), (pm, .inl (cI, 224, .inl fm2)), (pf, .inl (cI, 224, .inl ff2)), (rg, .inr (1, [.ref ro, .ref rl, .int pl])), (ro, .inl (cI, 4, .inl fo)), (rl, .inl (cI, 28, .inl (sh fl)))]) [0, 1, 2, 3, 4, 5] (by decide) rfl).2 k9 (z9, e9) h9) (fun z9 ⟨k9, e9, h9⟩ => (hD.sub (ws' := [(pn, .inr (0, [.ref pm, .ref pf, .int (nI (vis (safS fo fl pl tons) (S.1 ct + 1) ((ct % 8 + 7) % 8) (ct / 8) (vis (safS fo fl pl tons) (S.1 ct + 1) ((ct % 8 + 1) % 8) (ct / 8) (S))).2.2)])), (pm, .inl (cI, 224, .inl fm2)), (pf, .inl (cI, 224, .inl ff2)), (rg, .inr (1, [.ref ro, .ref rl, .int pl])), (ro, .inl (cI, 4, .inl fo)), (rl, .inl (cI, 28, .inl (sh fl)))]) [0, 1, 2, 3, 4, 5] (by decide) rfl).2 k9 (z9, e9) h9) (fun H1 locs hB hz1 hk1 hS => ?_)
  obtain ⟨fm3, ff3, hC3, hB⟩ := hB
  obtain ⟨hP, hD⟩ := c_join (ws' := [(pn, .inr (0, [.ref pm, .ref pf, .int (nI (vis (safS fo fl pl tons) (S.1 ct + 1) (ct % 8) (ct / 8 + 1) (vis (safS fo fl pl tons) (S.1 ct + 1) ((ct % 8 + 7) % 8) (ct / 8) (vis (safS fo fl pl tons) (S.1 ct + 1) ((ct % 8 + 1) % 8) (ct / 8) (S)))).2.2)])), (pm, .inl (cI, 224, .inl fm3)), (pf, .inl (cI, 224, .inl ff3)), (rg, .inr (1, [.ref ro, .ref rl, .int pl])), (ro, .inl (cI, 4, .inl fo)), (rl, .inl (cI, 28, .inl (sh fl)))]) (wr := []) (w1 := [(pn, .inr (0, [.ref pm, .ref pf, .int (nI (vis (safS fo fl pl tons) (S.1 ct + 1) (ct % 8) (ct / 8 + 1) (vis (safS fo fl pl tons) (S.1 ct + 1) ((ct % 8 + 7) % 8) (ct / 8) (vis (safS fo fl pl tons) (S.1 ct + 1) ((ct % 8 + 1) % 8) (ct / 8) (S)))).2.2)])), (pm, .inl (cI, 224, .inl fm3)), (pf, .inl (cI, 224, .inl ff3)), (rg, .inr (1, [.ref ro, .ref rl, .int pl])), (ro, .inl (cI, 4, .inl fo)), (rl, .inl (cI, 28, .inl (sh fl)))]) hP hD [0, 1, 2, 3, 4, 5] [] [0, 1, 2, 3, 4, 5] rfl rfl (by decide) (by decide) hk1 hB rfl rfl rfl (by decide)
  generalize H1 = H at hP hS ⊢
  show W _ _ _ _ _ _ _ _ _ _ _ _ _ _ _ (F0 m 84 ls [])
  have hI3 : bInv (vis (safS fo fl pl tons) (S.1 ct + 1) (ct % 8) (ct / 8 + 1) (vis (safS fo fl pl tons) (S.1 ct + 1) ((ct % 8 + 7) % 8) (ct / 8) (vis (safS fo fl pl tons) (S.1 ct + 1) ((ct % 8 + 1) % 8) (ct / 8) (S)))) := vis_invF hk3 hI2 (hd) (by omega)
  have hn3 := (vis_n (sf := safS fo fl pl tons) (far := (S.1 ct + 1)) (d := (ct % 8)) (r := (ct / 8 + 1)) (S := vis (safS fo fl pl tons) (S.1 ct + 1) ((ct % 8 + 7) % 8) (ct / 8) (vis (safS fo fl pl tons) (S.1 ct + 1) ((ct % 8 + 1) % 8) (ct / 8) (S)))).1
  refine lv_aload_n hx hb dX0_visitBeside_84 rfl (lv_at hl 3 rfl) ?_
  refine lv_aload_n hx hb dX0_visitBeside_85 rfl (lv_at hl 4 rfl) ?_
  refine lv_iload_n hx hb dX0_visitBeside_86 rfl (lv_at hl 5 rfl) ?_
  refine lv_iload hx hb dX0_visitBeside_87 (lv_at hl 2 rfl) ?_
  refine lv_iload hx hb dX0_visitBeside_89 (lv_at hl 1 rfl) ?_
  refine lv_iconst (v := 1) hx hb dX0_visitBeside_91 (by decide) ?_
  refine lv_isub hx hb dX0_visitBeside_92 ?_
  refine lv_iload hx hb dX0_visitBeside_93 (lv_at hl 0 rfl) ?_
  refine W.eq (g2 := F0 m 95 ls [.int ((S.1 ct) + 1), .int (nI (ct / 8 - 1)), .int (nI (ct % 8)), .int tons, .ref rg, .ref pn]) (by rw [show nI (ct / 8) - 1 = nI (ct / 8 - 1) from pk_sub (b := 1) (by omega)]) ?_
  have hPc := hP.sub (ws' := [(pn, .inr (0, [.ref pm, .ref pf, .int (nI (vis (safS fo fl pl tons) (S.1 ct + 1) (ct % 8) (ct / 8 + 1) (vis (safS fo fl pl tons) (S.1 ct + 1) ((ct % 8 + 7) % 8) (ct / 8) (vis (safS fo fl pl tons) (S.1 ct + 1) ((ct % 8 + 1) % 8) (ct / 8) (S)))).2.2)])), (pm, .inl (cI, 224, .inl fm3)), (pf, .inl (cI, 224, .inl ff3)), (rg, .inr (1, [.ref ro, .ref rl, .int pl])), (ro, .inl (cI, 4, .inl fo)), (rl, .inl (cI, 28, .inl (sh fl)))]) [0, 1, 2, 3, 4, 5] rfl
  have hDc : va_D (fun q : Nat => L0 ≤ q) [(pn, .inr (0, [.ref pm, .ref pf, .int (nI (vis (safS fo fl pl tons) (S.1 ct + 1) (ct % 8) (ct / 8 + 1) (vis (safS fo fl pl tons) (S.1 ct + 1) ((ct % 8 + 7) % 8) (ct / 8) (vis (safS fo fl pl tons) (S.1 ct + 1) ((ct % 8 + 1) % 8) (ct / 8) (S)))).2.2)])), (pm, .inl (cI, 224, .inl fm3)), (pf, .inl (cI, 224, .inl ff3)), (rg, .inr (1, [.ref ro, .ref rl, .int pl])), (ro, .inl (cI, 4, .inl fo)), (rl, .inl (cI, 28, .inl (sh fl)))] := (hD.sub (ws' := [(pn, .inr (0, [.ref pm, .ref pf, .int (nI (vis (safS fo fl pl tons) (S.1 ct + 1) (ct % 8) (ct / 8 + 1) (vis (safS fo fl pl tons) (S.1 ct + 1) ((ct % 8 + 7) % 8) (ct / 8) (vis (safS fo fl pl tons) (S.1 ct + 1) ((ct % 8 + 1) % 8) (ct / 8) (S)))).2.2)])), (pm, .inl (cI, 224, .inl fm3)), (pf, .inl (cI, 224, .inl ff3)), (rg, .inr (1, [.ref ro, .ref rl, .int pl])), (ro, .inl (cI, 4, .inl fo)), (rl, .inl (cI, 28, .inl (sh fl)))]) [0, 1, 2, 3, 4, 5] (by decide) rfl).weaken (fun _ z9 _ h9 => hAL _ h9)
  have hKc := hK.sub (tys' := [(cI, .int)]) [0] rfl
  refine c_callB (va_runV (As := [.ref rg, .int tons, .int (nI (ct % 8)), .int (nI (ct / 8 - 1)), .int ((S.1 ct) + 1)]) (rest := []) ⟨hx, hb, hml, hown, hts⟩ (k_visit l D L0 cI pn pm pf rg ro rl fm3 ff3 pl fo fl tons (S.1 ct + 1) (vis (safS fo fl pl tons) (S.1 ct + 1) (ct % 8) (ct / 8 + 1) (vis (safS fo fl pl tons) (S.1 ct + 1) ((ct % 8 + 7) % 8) (ct / 8) (vis (safS fo fl pl tons) (S.1 ct + 1) ((ct % 8 + 1) % 8) (ct / 8) (S)))) (ct % 8) (ct / 8 - 1) (k + 1) (hd) (by omega) hI3 hC3 hk3 (by omega)) (cwV 5 hts gX0_visitBeside_X0_visit rfl rfl rfl (by decide +kernel) ⟨Nat.le_of_ble_eq_true rfl, Nat.le_of_ble_eq_true rfl⟩) ⟨cP_blind, va_recv hKc hPc (ci := 0) (q0 := 0) rfl rfl, cP_of hPc hKc hDc (kE_at hE0 hAL hS)⟩ rfl rfl hl.1 rfl (lv_room (Nat.le_of_ble_eq_true rfl)) dX0_visitBeside_95 ⟨Nat.le_of_ble_eq_true rfl, Nat.le_of_ble_eq_true rfl⟩) hS (fun z9 _ ⟨k9, e9, h9⟩ => (hD.sub (ws' := [(pn, .inr (0, [.ref pm, .ref pf, .int (nI (vis (safS fo fl pl tons) (S.1 ct + 1) (ct % 8) (ct / 8 + 1) (vis (safS fo fl pl tons) (S.1 ct + 1) ((ct % 8 + 7) % 8) (ct / 8) (vis (safS fo fl pl tons) (S.1 ct + 1) ((ct % 8 + 1) % 8) (ct / 8) (S)))).2.2)])), (pm, .inl (cI, 224, .inl fm3)), (pf, .inl (cI, 224, .inl ff3)), (rg, .inr (1, [.ref ro, .ref rl, .int pl])), (ro, .inl (cI, 4, .inl fo)), (rl, .inl (cI, 28, .inl (sh fl)))]) [0, 1, 2, 3, 4, 5] (by decide) rfl).2 k9 (z9, e9) h9) (fun z9 ⟨k9, e9, h9⟩ => (hD.sub (ws' := [(pn, .inr (0, [.ref pm, .ref pf, .int (nI (vis (safS fo fl pl tons) (S.1 ct + 1) (ct % 8) (ct / 8 + 1) (vis (safS fo fl pl tons) (S.1 ct + 1) ((ct % 8 + 7) % 8) (ct / 8) (vis (safS fo fl pl tons) (S.1 ct + 1) ((ct % 8 + 1) % 8) (ct / 8) (S)))).2.2)])), (pm, .inl (cI, 224, .inl fm3)), (pf, .inl (cI, 224, .inl ff3)), (rg, .inr (1, [.ref ro, .ref rl, .int pl])), (ro, .inl (cI, 4, .inl fo)), (rl, .inl (cI, 28, .inl (sh fl)))]) [0, 1, 2, 3, 4, 5] (by decide) rfl).2 k9 (z9, e9) h9) (fun H1 locs hB hz1 hk1 hS => ?_)
  obtain ⟨fm4, ff4, hC4, hB⟩ := hB
  obtain ⟨hP, hD⟩ := c_join (ws' := [(pn, .inr (0, [.ref pm, .ref pf, .int (nI (vis (safS fo fl pl tons) (S.1 ct + 1) (ct % 8) (ct / 8 - 1) (vis (safS fo fl pl tons) (S.1 ct + 1) (ct % 8) (ct / 8 + 1) (vis (safS fo fl pl tons) (S.1 ct + 1) ((ct % 8 + 7) % 8) (ct / 8) (vis (safS fo fl pl tons) (S.1 ct + 1) ((ct % 8 + 1) % 8) (ct / 8) (S))))).2.2)])), (pm, .inl (cI, 224, .inl fm4)), (pf, .inl (cI, 224, .inl ff4)), (rg, .inr (1, [.ref ro, .ref rl, .int pl])), (ro, .inl (cI, 4, .inl fo)), (rl, .inl (cI, 28, .inl (sh fl)))]) (wr := []) (w1 := [(pn, .inr (0, [.ref pm, .ref pf, .int (nI (vis (safS fo fl pl tons) (S.1 ct + 1) (ct % 8) (ct / 8 - 1) (vis (safS fo fl pl tons) (S.1 ct + 1) (ct % 8) (ct / 8 + 1) (vis (safS fo fl pl tons) (S.1 ct + 1) ((ct % 8 + 7) % 8) (ct / 8) (vis (safS fo fl pl tons) (S.1 ct + 1) ((ct % 8 + 1) % 8) (ct / 8) (S))))).2.2)])), (pm, .inl (cI, 224, .inl fm4)), (pf, .inl (cI, 224, .inl ff4)), (rg, .inr (1, [.ref ro, .ref rl, .int pl])), (ro, .inl (cI, 4, .inl fo)), (rl, .inl (cI, 28, .inl (sh fl)))]) hP hD [0, 1, 2, 3, 4, 5] [] [0, 1, 2, 3, 4, 5] rfl rfl (by decide) (by decide) hk1 hB rfl rfl rfl (by decide)
  generalize H1 = H at hP hS ⊢
  show W _ _ _ _ _ _ _ _ _ _ _ _ _ _ _ (F0 m 98 ls [])
  exact W.vret hx hb hRt (fun t ht hW => ⟨⟨rfl, by rw [ht]; exact ⟨_, _, hC4, hP⟩⟩, hS.F ht⟩) hS.2.2 dX0_visitBeside_98
set_option maxHeartbeats 4000000 in
set_option maxRecDepth 100000 in
/-- spread(rig, tons, to, metres) -/
theorem k_spread (l : Launch) (D : va_G) (L0 : Nat) (cI : ClassId) (pn pm pf rg ro rl : Nat) (np : Int32) (fm ff : Nat → Int32) (pl : Int32) (fo fl : Nat → Int32) (tons : Int32) (d r : Nat) (hd : d < 8) (hr : 3 ≤ r ∧ r ≤ 30) : Met l yX0_spread wsX0_spread ({ frames := 5, cells := 0, slots := 0, locals := 123 }) (cP L0 D [(cI, .int)] [(pn, .inr (0, [.ref pm, .ref pf, .int np])), (pm, .inl (cI, 224, .inl fm)), (pf, .inl (cI, 224, .inl ff)), (rg, .inr (1, [.ref ro, .ref rl, .int pl])), (ro, .inl (cI, 4, .inl fo)), (rl, .inl (cI, 28, .inl (sh fl)))] [.ref pn, .ref rg, .int tons, .int (nI d), .int (nI r)]) (cB (some (.int (nI (goS (safS fo fl pl tons) d r).2.2))) (fun H => ∃ fm9 ff9 : Nat → Int32, bC ((goS (safS fo fl pl tons) d r)) fm9 ff9 ∧ va_P D vwCl [(pn, .inr (0, [.ref pm, .ref pf, .int (nI ((goS (safS fo fl pl tons) d r)).2.2)])), (pm, .inl (cI, 224, .inl fm9)), (pf, .inl (cI, 224, .inl ff9)), (rg, .inr (1, [.ref ro, .ref rl, .int pl])), (ro, .inl (cI, 4, .inl fo)), (rl, .inl (cI, 28, .inl (sh fl)))] H) (cA [(pn, .inr (0, [.ref pm, .ref pf, .int np])), (pm, .inl (cI, 224, .inl fm)), (pf, .inl (cI, 224, .inl ff)), (rg, .inr (1, [.ref ro, .ref rl, .int pl])), (ro, .inl (cI, 4, .inl fo)), (rl, .inl (cI, 28, .inl (sh fl)))])) 0 0 (cA [(pn, .inr (0, [.ref pm, .ref pf, .int np])), (pm, .inl (cI, 224, .inl fm)), (pf, .inl (cI, 224, .inl ff)), (rg, .inr (1, [.ref ro, .ref rl, .int pl])), (ro, .inl (cI, 4, .inl fo)), (rl, .inl (cI, 28, .inl (sh fl)))]) := by
  refine Met.ofW (cc := cX0_spread) (maxL := 6) (ret := (some .int)) (by decide) rfl ?_
  intro p e s m args below meth c s₁ B hml hv
  obtain ⟨rfl, hP, hK, hD0, hE0⟩ := hv
  have hx := B.exec
  have hb := B.bytes
  have hRt := B.returns
  have hts := atoms_spec (ws := wsX0_spread) B.pre
  have hown : s.vm.findClass RX0 = some m.cls := findClass_of_methodNamed B.named
  have hlocks := B.notSynchronized
  have hAL : ∀ z9 : Nat, cA [(pn, .inr (0, [.ref pm, .ref pf, .int np])), (pm, .inl (cI, 224, .inl fm)), (pf, .inl (cI, 224, .inl ff)), (rg, .inr (1, [.ref ro, .ref rl, .int pl])), (ro, .inl (cI, 4, .inl fo)), (rl, .inl (cI, 28, .inl (sh fl)))] z9 → L0 ≤ z9 := fun z9 ⟨k9, e9, h9⟩ => hD0.2 k9 (z9, e9) h9
  have hD : va_D (cA [(pn, .inr (0, [.ref pm, .ref pf, .int np])), (pm, .inl (cI, 224, .inl fm)), (pf, .inl (cI, 224, .inl ff)), (rg, .inr (1, [.ref ro, .ref rl, .int pl])), (ro, .inl (cI, 4, .inl fo)), (rl, .inl (cI, 28, .inl (sh fl)))]) [(pn, .inr (0, [.ref pm, .ref pf, .int np])), (pm, .inl (cI, 224, .inl fm)), (pf, .inl (cI, 224, .inl ff)), (rg, .inr (1, [.ref ro, .ref rl, .int pl])), (ro, .inl (cI, 4, .inl fo)), (rl, .inl (cI, 28, .inl (sh fl)))] := ⟨hD0.1, fun k9 z9 h9 => cA_of h9⟩
  generalize hAe : cA [(pn, .inr (0, [.ref pm, .ref pf, .int np])), (pm, .inl (cI, 224, .inl fm)), (pf, .inl (cI, 224, .inl ff)), (rg, .inr (1, [.ref ro, .ref rl, .int pl])), (ro, .inl (cI, 4, .inl fo)), (rl, .inl (cI, 28, .inl (sh fl)))] = A at hD hAL ⊢
  have hS : va_S A s.heap s.heap [] := va_S.rf
  have hiX0 : ∀ w ∈ u_ws RX0 TX0 3, w ∈ wsX0_spread := by decide +kernel
  have hiX1 : ∀ w ∈ u_ws RX1 TX1 3, w ∈ wsX0_spread := by decide +kernel
  have hl := lv_entry ([.ref pn, .ref rg, .int tons, .int (nI d), .int (nI r)]) (n := 6) (Nat.le_of_ble_eq_true rfl)
  rw [lg_entry_eq]
  generalize (lg_sl ([.ref pn, .ref rg, .int tons, .int (nI d), .int (nI r)]) ++ List.replicate (6 - (lg_sl ([.ref pn, .ref rg, .int tons, .int (nI d), .int (nI r)])).length) Slot.unset).toArray = ls at hl ⊢
  have hl : lv_has ls 6 [(0, .ref pn), (1, .ref rg), (2, .int tons), (3, .int (nI d)), (4, .int (nI r))] := hl
  have loop2 : ∀ (n : Nat) (i : Nat) (S : bS) (gm : Nat → Int32) (gf : Nat → Int32) (H : Heap) (locs : List Loc) (ls : Array Slot), i + n = 225 → bInv S → i ≤ S.2.2 → bC S gm gf → bfs (safS fo fl pl tons) n i S = (goS (safS fo fl pl tons) d r) → lv_has ls 6 [(5, .int (nI i)), (0, .ref pn), (1, .ref rg), (2, .int tons), (3, .int (nI d)), (4, .int (nI r))] → va_P D vwCl [(pn, .inr (0, [.ref pm, .ref pf, .int (nI S.2.2)])), (pm, .inl (cI, 224, .inl gm)), (pf, .inl (cI, 224, .inl gf)), (rg, .inr (1, [.ref ro, .ref rl, .int pl])), (ro, .inl (cI, 4, .inl fo)), (rl, .inl (cI, 28, .inl (sh fl)))] H → va_D A [(pn, .inr (0, [.ref pm, .ref pf, .int (nI S.2.2)])), (pm, .inl (cI, 224, .inl gm)), (pf, .inl (cI, 224, .inl gf)), (rg, .inr (1, [.ref ro, .ref rl, .int pl])), (ro, .inl (cI, 4, .inl fo)), (rl, .inl (cI, 28, .inl (sh fl)))] → va_S A s.heap H locs → W p l e (headSpec wsX0_spread ({ frames := 5, cells := 0, slots := 0, locals := 123 })).room s m ([.ref pn, .ref rg, .int tons, .int (nI d), .int (nI r)]).toArray below meth c H locs 0 0 (MQ below (cB (some (.int (nI (goS (safS fo fl pl tons) d r).2.2))) (fun H => ∃ fm9 ff9 : Nat → Int32, bC ((goS (safS fo fl pl tons) d r)) fm9 ff9 ∧ va_P D vwCl [(pn, .inr (0, [.ref pm, .ref pf, .int (nI ((goS (safS fo fl pl tons) d r)).2.2)])), (pm, .inl (cI, 224, .inl fm9)), (pf, .inl (cI, 224, .inl ff9)), (rg, .inr (1, [.ref ro, .ref rl, .int pl])), (ro, .inl (cI, 4, .inl fo)), (rl, .inl (cI, 28, .inl (sh fl)))] H) A) ([.ref pn, .ref rg, .int tons, .int (nI d), .int (nI r)]).toArray s 0 0 A) (F0 m 45 ls []) := by
    intro n
    induction n with
    | zero =>
      intro i S gm gf H locs ls hn hI hle hC hG hl hP hD hS
      exact absurd (bInv_le hI) (by omega)
    | succ n ih =>
      intro i S gm gf H locs ls hn hI hle hC hG hl hP hD hS
      have hle2 := bInv_le hI
      refine lv_iload hx hb dX0_spread_45 (lv_at hl 0 rfl) ?_
      refine lv_aload_n hx hb dX0_spread_47 rfl (lv_at hl 1 rfl) ?_
      refine va_get (D := D) (ci := 0) (v := .int (nI S.2.2)) (C := RX0) (T := TX0) (N := 3) hx hb hts hiX0 hown hK hP 0 rfl rfl 2 (by decide) (hts (.fieldLink RX0 18 "CraneReach$Plan" "places" "I") (by decide +kernel)) (fun _ h9 => h9) rfl dX0_spread_48 ?_
      refine lv_icmp_ge (tgt := 83) hx hb dX0_spread_51 (by decide) (fun c_14 => ?_) (fun c_14 => ?_)
      · have e : S = (goS (safS fo fl pl tons) d r) := by
          have z : ¬ i < S.2.2 := fun z => nI_ge z (by omega) c_14
          rw [← hG, bfs_stop z]
        refine lv_aload_n hx hb dX0_spread_83 rfl (lv_at hl 1 rfl) ?_
        refine va_get (D := D) (ci := 0) (v := .int (nI S.2.2)) (C := RX0) (T := TX0) (N := 3) hx hb hts hiX0 hown hK hP 0 rfl rfl 2 (by decide) (hts (.fieldLink RX0 18 "CraneReach$Plan" "places" "I") (by decide +kernel)) (fun _ h9 => h9) rfl dX0_spread_84 ?_
        rw [e] at hC hP ⊢
        exact W.iret (v := (nI (goS (safS fo fl pl tons) d r).2.2)) hx hb hRt (fun t ht hW => ⟨⟨rfl, by rw [ht]; exact ⟨_, _, hC, hP⟩⟩, hS.F ht⟩) hS.2.2 dX0_spread_87
      · have hi : i < S.2.2 := by
          rcases Nat.lt_or_ge i S.2.2 with z | z
          · exact z
          · exact absurd (nI_le z (by omega)) c_14
        refine lv_iload hx hb dX0_spread_54 (lv_at hl 0 rfl) ?_
        refine lv_aload_n hx hb dX0_spread_56 rfl (lv_at hl 1 rfl) ?_
        refine va_get (D := D) (ci := 0) (v := .ref pf) (C := RX0) (T := TX0) (N := 3) hx hb hts hiX0 hown hK hP 0 rfl rfl 1 (by decide) (hts (.fieldLink RX0 15 "CraneReach$Plan" "found" "[I") (by decide +kernel)) (fun _ h9 => h9) rfl dX0_spread_57 ?_
        refine va_alen hx hb hK hP 2 0 rfl rfl (v := 224) rfl dX0_spread_60 ?_
        refine lv_icmp_ge (tgt := 83) hx hb dX0_spread_61 (by decide) (fun c_15 => absurd c_15 (nI_ge (b := 224) (by omega) (by decide))) (fun _ => ?_)
        refine lv_aload_n hx hb dX0_spread_64 rfl (lv_at hl 1 rfl) ?_
        refine lv_aload_n hx hb dX0_spread_65 rfl (lv_at hl 2 rfl) ?_
        refine lv_iload_n hx hb dX0_spread_66 rfl (lv_at hl 3 rfl) ?_
        refine lv_aload_n hx hb dX0_spread_67 rfl (lv_at hl 1 rfl) ?_
        refine va_get (D := D) (ci := 0) (v := .ref pf) (C := RX0) (T := TX0) (N := 3) hx hb hts hiX0 hown hK hP 0 rfl rfl 1 (by decide) (hts (.fieldLink RX0 15 "CraneReach$Plan" "found" "[I") (by decide +kernel)) (fun _ h9 => h9) rfl dX0_spread_68 ?_
        refine lv_iload hx hb dX0_spread_71 (lv_at hl 0 rfl) ?_
        refine va_iald hx hb hK hP 2 0 rfl rfl (vp_in_nI (by omega) (by decide)) dX0_spread_73 ?_
        refine c_top (show (gf (nI i).toNatClampNeg) = gf i from by rw [nI_clamp (by omega)]) ?_
        refine c_top (show (gf i) = nI (plc (S.2.1 i % 8) (S.2.1 i / 8)) from hC.2 i hi) ?_
        have hPc := hP.sub (ws' := [(pn, .inr (0, [.ref pm, .ref pf, .int (nI S.2.2)])), (pm, .inl (cI, 224, .inl gm)), (pf, .inl (cI, 224, .inl gf)), (rg, .inr (1, [.ref ro, .ref rl, .int pl])), (ro, .inl (cI, 4, .inl fo)), (rl, .inl (cI, 28, .inl (sh fl)))]) [0, 1, 2, 3, 4, 5] rfl
        have hDc : va_D (fun q : Nat => L0 ≤ q) [(pn, .inr (0, [.ref pm, .ref pf, .int (nI S.2.2)])), (pm, .inl (cI, 224, .inl gm)), (pf, .inl (cI, 224, .inl gf)), (rg, .inr (1, [.ref ro, .ref rl, .int pl])), (ro, .inl (cI, 4, .inl fo)), (rl, .inl (cI, 28, .inl (sh fl)))] := (hD.sub (ws' := [(pn, .inr (0, [.ref pm, .ref pf, .int (nI S.2.2)])), (pm, .inl (cI, 224, .inl gm)), (pf, .inl (cI, 224, .inl gf)), (rg, .inr (1, [.ref ro, .ref rl, .int pl])), (ro, .inl (cI, 4, .inl fo)), (rl, .inl (cI, 28, .inl (sh fl)))]) [0, 1, 2, 3, 4, 5] (by decide) rfl).weaken (fun _ z9 _ h9 => hAL _ h9)
        have hKc := hK.sub (tys' := [(cI, .int)]) [0] rfl
        refine c_callB (va_runV (As := [.ref rg, .int tons, .int (nI (plc (S.2.1 i % 8) (S.2.1 i / 8)))]) (rest := []) ⟨hx, hb, hml, hown, hts⟩ (k_visitBeside l D L0 cI pn pm pf rg ro rl gm gf pl fo fl tons S i (S.2.1 i) hI hC hi rfl) (cwV 3 hts gX0_spread_X0_visitBeside rfl rfl rfl (by decide +kernel) ⟨Nat.le_of_ble_eq_true rfl, Nat.le_of_ble_eq_true rfl⟩) ⟨cP_blind, va_recv hKc hPc (ci := 0) (q0 := 0) rfl rfl, cP_of hPc hKc hDc (kE_at hE0 hAL hS)⟩ rfl rfl hl.1 rfl (lv_room (Nat.le_of_ble_eq_true rfl)) dX0_spread_74 ⟨Nat.le_of_ble_eq_true rfl, Nat.le_of_ble_eq_true rfl⟩) hS (fun z9 _ ⟨k9, e9, h9⟩ => (hD.sub (ws' := [(pn, .inr (0, [.ref pm, .ref pf, .int (nI S.2.2)])), (pm, .inl (cI, 224, .inl gm)), (pf, .inl (cI, 224, .inl gf)), (rg, .inr (1, [.ref ro, .ref rl, .int pl])), (ro, .inl (cI, 4, .inl fo)), (rl, .inl (cI, 28, .inl (sh fl)))]) [0, 1, 2, 3, 4, 5] (by decide) rfl).2 k9 (z9, e9) h9) (fun z9 ⟨k9, e9, h9⟩ => (hD.sub (ws' := [(pn, .inr (0, [.ref pm, .ref pf, .int (nI S.2.2)])), (pm, .inl (cI, 224, .inl gm)), (pf, .inl (cI, 224, .inl gf)), (rg, .inr (1, [.ref ro, .ref rl, .int pl])), (ro, .inl (cI, 4, .inl fo)), (rl, .inl (cI, 28, .inl (sh fl)))]) [0, 1, 2, 3, 4, 5] (by decide) rfl).2 k9 (z9, e9) h9) (fun H1 locs hB hz1 hk1 hS => ?_)
        obtain ⟨gm1, gf1, hC1, hB⟩ := hB
        obtain ⟨hP, hD⟩ := c_join (ws' := [(pn, .inr (0, [.ref pm, .ref pf, .int (nI (vis4 (safS fo fl pl tons) (S.2.1 i) S).2.2)])), (pm, .inl (cI, 224, .inl gm1)), (pf, .inl (cI, 224, .inl gf1)), (rg, .inr (1, [.ref ro, .ref rl, .int pl])), (ro, .inl (cI, 4, .inl fo)), (rl, .inl (cI, 28, .inl (sh fl)))]) (wr := []) (w1 := [(pn, .inr (0, [.ref pm, .ref pf, .int (nI (vis4 (safS fo fl pl tons) (S.2.1 i) S).2.2)])), (pm, .inl (cI, 224, .inl gm1)), (pf, .inl (cI, 224, .inl gf1)), (rg, .inr (1, [.ref ro, .ref rl, .int pl])), (ro, .inl (cI, 4, .inl fo)), (rl, .inl (cI, 28, .inl (sh fl)))]) hP hD [0, 1, 2, 3, 4, 5] [] [0, 1, 2, 3, 4, 5] rfl rfl (by decide) (by decide) hk1 hB rfl rfl rfl (by decide)
        generalize H1 = H at hP hS ⊢
        show W _ _ _ _ _ _ _ _ _ _ _ _ _ _ _ (F0 m 77 ls [])
        obtain ⟨hI1, hn1⟩ := vis4_inv (sf := safS fo fl pl tons) hI hi
        refine lv_iinc (v := (nI i) + 1) (lv' := [(5, .int ((nI i) + 1)), (0, .ref pn), (1, .ref rg), (2, .int tons), (3, .int (nI d)), (4, .int (nI r))]) hx hb dX0_spread_77 hl (k := 0) rfl rfl (by decide) rfl (fun ls hl => ?_)
        refine lv_goto (tgt := 45) hx hb dX0_spread_80 (by decide) ?_
        have hl : lv_has ls 6 [(5, .int (nI (i + 1))), (0, .ref pn), (1, .ref rg), (2, .int tons), (3, .int (nI d)), (4, .int (nI r))] := (show (nI i) + 1 = nI (i + 1) from nI_1 i) ▸ hl
        exact ih (i + 1) (vis4 (safS fo fl pl tons) (S.2.1 i) S) _ _ _ _ _ (by omega) hI1 (by omega) hC1 (bfs_go hi ▸ hG) (lv_sub hl [0, 1, 2, 3, 4, 5] rfl) hP hD hS
  have loop1 : ∀ (n : Nat) (i : Nat) (gm : Nat → Int32) (H : Heap) (locs : List Loc) (ls : Array Slot), i + n = 225 → i ≤ 224 → (∀ j, j < i → gm j = -1) → lv_has ls 6 [(5, .int (nI i)), (0, .ref pn), (1, .ref rg), (2, .int tons), (3, .int (nI d)), (4, .int (nI r))] → va_P D vwCl [(pn, .inr (0, [.ref pm, .ref pf, .int 0])), (pm, .inl (cI, 224, .inl gm)), (pf, .inl (cI, 224, .inl ff)), (rg, .inr (1, [.ref ro, .ref rl, .int pl])), (ro, .inl (cI, 4, .inl fo)), (rl, .inl (cI, 28, .inl (sh fl)))] H → va_D A [(pn, .inr (0, [.ref pm, .ref pf, .int 0])), (pm, .inl (cI, 224, .inl gm)), (pf, .inl (cI, 224, .inl ff)), (rg, .inr (1, [.ref ro, .ref rl, .int pl])), (ro, .inl (cI, 4, .inl fo)), (rl, .inl (cI, 28, .inl (sh fl)))] → va_S A s.heap H locs → W p l e (headSpec wsX0_spread ({ frames := 5, cells := 0, slots := 0, locals := 123 })).room s m ([.ref pn, .ref rg, .int tons, .int (nI d), .int (nI r)]).toArray below meth c H locs 0 0 (MQ below (cB (some (.int (nI (goS (safS fo fl pl tons) d r).2.2))) (fun H => ∃ fm9 ff9 : Nat → Int32, bC ((goS (safS fo fl pl tons) d r)) fm9 ff9 ∧ va_P D vwCl [(pn, .inr (0, [.ref pm, .ref pf, .int (nI ((goS (safS fo fl pl tons) d r)).2.2)])), (pm, .inl (cI, 224, .inl fm9)), (pf, .inl (cI, 224, .inl ff9)), (rg, .inr (1, [.ref ro, .ref rl, .int pl])), (ro, .inl (cI, 4, .inl fo)), (rl, .inl (cI, 28, .inl (sh fl)))] H) A) ([.ref pn, .ref rg, .int tons, .int (nI d), .int (nI r)]).toArray s 0 0 A) (F0 m 8 ls []) := by
    intro n
    induction n with
    | zero =>
      intro i gm H locs ls hn hle hg hl hP hD hS
      exact absurd hn (by omega)
    | succ n ih =>
      intro i gm H locs ls hn hle hg hl hP hD hS
      refine lv_iload hx hb dX0_spread_8 (lv_at hl 0 rfl) ?_
      refine lv_aload_n hx hb dX0_spread_10 rfl (lv_at hl 1 rfl) ?_
      refine va_get (D := D) (ci := 0) (v := .ref pm) (C := RX0) (T := TX0) (N := 3) hx hb hts hiX0 hown hK hP 0 rfl rfl 0 (by decide) (hts (.fieldLink RX0 9 "CraneReach$Plan" "moves" "[I") (by decide +kernel)) (fun _ h9 => h9) rfl dX0_spread_11 ?_
      refine va_alen hx hb hK hP 1 0 rfl rfl (v := 224) rfl dX0_spread_14 ?_
      refine lv_icmp_ge (tgt := 32) hx hb dX0_spread_15 (by decide) (fun c_16 => ?_) (fun c_16 => ?_)
      · have hi : i = 224 := by
          rcases Nat.lt_or_ge i 224 with z | z
          · exact absurd c_16 (nI_ge (b := 224) z (by decide))
          · omega
        have hC0 : bC ((fun _ => -1, fun _ => 0, 0) : bS) gm ff := ⟨fun d2 r2 h1 h2 h3 => hg _ (by have := plc_lt h1 ⟨h2, h3⟩; omega), fun j hj => absurd hj (Nat.not_lt_zero j)⟩
        refine lv_aload_n hx hb dX0_spread_32 rfl (lv_at hl 1 rfl) ?_
        refine lv_aload_n hx hb dX0_spread_33 rfl (lv_at hl 2 rfl) ?_
        refine lv_iload_n hx hb dX0_spread_34 rfl (lv_at hl 3 rfl) ?_
        refine lv_iload_n hx hb dX0_spread_35 rfl (lv_at hl 4 rfl) ?_
        refine lv_iload hx hb dX0_spread_36 (lv_at hl 5 rfl) ?_
        refine lv_iconst (v := 0) hx hb dX0_spread_38 (by decide) ?_
        have hP : va_P D vwCl [(pn, .inr (0, [.ref pm, .ref pf, .int (nI (((fun _ => -1, fun _ => 0, 0) : bS)).2.2)])), (pm, .inl (cI, 224, .inl gm)), (pf, .inl (cI, 224, .inl ff)), (rg, .inr (1, [.ref ro, .ref rl, .int pl])), (ro, .inl (cI, 4, .inl fo)), (rl, .inl (cI, 28, .inl (sh fl)))] H := hP
        have hD : va_D A [(pn, .inr (0, [.ref pm, .ref pf, .int (nI (((fun _ => -1, fun _ => 0, 0) : bS)).2.2)])), (pm, .inl (cI, 224, .inl gm)), (pf, .inl (cI, 224, .inl ff)), (rg, .inr (1, [.ref ro, .ref rl, .int pl])), (ro, .inl (cI, 4, .inl fo)), (rl, .inl (cI, 28, .inl (sh fl)))] := hD
        have hPc := hP.sub (ws' := [(pn, .inr (0, [.ref pm, .ref pf, .int (nI (((fun _ => -1, fun _ => 0, 0) : bS)).2.2)])), (pm, .inl (cI, 224, .inl gm)), (pf, .inl (cI, 224, .inl ff)), (rg, .inr (1, [.ref ro, .ref rl, .int pl])), (ro, .inl (cI, 4, .inl fo)), (rl, .inl (cI, 28, .inl (sh fl)))]) [0, 1, 2, 3, 4, 5] rfl
        have hDc : va_D (fun q : Nat => L0 ≤ q) [(pn, .inr (0, [.ref pm, .ref pf, .int (nI (((fun _ => -1, fun _ => 0, 0) : bS)).2.2)])), (pm, .inl (cI, 224, .inl gm)), (pf, .inl (cI, 224, .inl ff)), (rg, .inr (1, [.ref ro, .ref rl, .int pl])), (ro, .inl (cI, 4, .inl fo)), (rl, .inl (cI, 28, .inl (sh fl)))] := (hD.sub (ws' := [(pn, .inr (0, [.ref pm, .ref pf, .int (nI (((fun _ => -1, fun _ => 0, 0) : bS)).2.2)])), (pm, .inl (cI, 224, .inl gm)), (pf, .inl (cI, 224, .inl ff)), (rg, .inr (1, [.ref ro, .ref rl, .int pl])), (ro, .inl (cI, 4, .inl fo)), (rl, .inl (cI, 28, .inl (sh fl)))]) [0, 1, 2, 3, 4, 5] (by decide) rfl).weaken (fun _ z9 _ h9 => hAL _ h9)
        have hKc := hK.sub (tys' := [(cI, .int)]) [0] rfl
        refine c_callB (va_runV (As := [.ref rg, .int tons, .int (nI d), .int (nI r), .int 0]) (rest := []) ⟨hx, hb, hml, hown, hts⟩ (k_visit l D L0 cI pn pm pf rg ro rl gm ff pl fo fl tons 0 ((fun _ => -1, fun _ => 0, 0) : bS) d r 0 hd (by omega) b0_inv hC0 rfl (Nat.zero_le _)) (cwV 5 hts gX0_spread_X0_visit rfl rfl rfl (by decide +kernel) ⟨Nat.le_of_ble_eq_true rfl, Nat.le_of_ble_eq_true rfl⟩) ⟨cP_blind, va_recv hKc hPc (ci := 0) (q0 := 0) rfl rfl, cP_of hPc hKc hDc (kE_at hE0 hAL hS)⟩ rfl rfl hl.1 rfl (lv_room (Nat.le_of_ble_eq_true rfl)) dX0_spread_39 ⟨Nat.le_of_ble_eq_true rfl, Nat.le_of_ble_eq_true rfl⟩) hS (fun z9 _ ⟨k9, e9, h9⟩ => (hD.sub (ws' := [(pn, .inr (0, [.ref pm, .ref pf, .int (nI (((fun _ => -1, fun _ => 0, 0) : bS)).2.2)])), (pm, .inl (cI, 224, .inl gm)), (pf, .inl (cI, 224, .inl ff)), (rg, .inr (1, [.ref ro, .ref rl, .int pl])), (ro, .inl (cI, 4, .inl fo)), (rl, .inl (cI, 28, .inl (sh fl)))]) [0, 1, 2, 3, 4, 5] (by decide) rfl).2 k9 (z9, e9) h9) (fun z9 ⟨k9, e9, h9⟩ => (hD.sub (ws' := [(pn, .inr (0, [.ref pm, .ref pf, .int (nI (((fun _ => -1, fun _ => 0, 0) : bS)).2.2)])), (pm, .inl (cI, 224, .inl gm)), (pf, .inl (cI, 224, .inl ff)), (rg, .inr (1, [.ref ro, .ref rl, .int pl])), (ro, .inl (cI, 4, .inl fo)), (rl, .inl (cI, 28, .inl (sh fl)))]) [0, 1, 2, 3, 4, 5] (by decide) rfl).2 k9 (z9, e9) h9) (fun H1 locs hB hz1 hk1 hS => ?_)
        obtain ⟨gm1, gf1, hC1, hB⟩ := hB
        obtain ⟨hP, hD⟩ := c_join (ws' := [(pn, .inr (0, [.ref pm, .ref pf, .int (nI (vis (safS fo fl pl tons) 0 d r ((fun _ => -1, fun _ => 0, 0) : bS)).2.2)])), (pm, .inl (cI, 224, .inl gm1)), (pf, .inl (cI, 224, .inl gf1)), (rg, .inr (1, [.ref ro, .ref rl, .int pl])), (ro, .inl (cI, 4, .inl fo)), (rl, .inl (cI, 28, .inl (sh fl)))]) (wr := []) (w1 := [(pn, .inr (0, [.ref pm, .ref pf, .int (nI (vis (safS fo fl pl tons) 0 d r ((fun _ => -1, fun _ => 0, 0) : bS)).2.2)])), (pm, .inl (cI, 224, .inl gm1)), (pf, .inl (cI, 224, .inl gf1)), (rg, .inr (1, [.ref ro, .ref rl, .int pl])), (ro, .inl (cI, 4, .inl fo)), (rl, .inl (cI, 28, .inl (sh fl)))]) hP hD [0, 1, 2, 3, 4, 5] [] [0, 1, 2, 3, 4, 5] rfl rfl (by decide) (by decide) hk1 hB rfl rfl rfl (by decide)
        generalize H1 = H at hP hS ⊢
        show W _ _ _ _ _ _ _ _ _ _ _ _ _ _ _ (F0 m 42 ls [])
        refine lv_iconst (v := 0) hx hb dX0_spread_42 (by decide) ?_
        refine lv_istore (lv' := [(5, .int 0), (0, .ref pn), (1, .ref rg), (2, .int tons), (3, .int (nI d)), (4, .int (nI r))]) hx hb dX0_spread_43 hl (by decide) rfl (fun ls hl => ?_)
        have hl : lv_has ls 6 [(5, .int (nI 0)), (0, .ref pn), (1, .ref rg), (2, .int tons), (3, .int (nI d)), (4, .int (nI r))] := (show 0 = nI 0 from rfl) ▸ hl
        exact loop2 225 0 (vis (safS fo fl pl tons) 0 d r ((fun _ => -1, fun _ => 0, 0) : bS)) _ _ _ _ _ (by omega) (vis_inv (k := 0) b0_inv hd (Nat.zero_le _)) (Nat.zero_le _) hC1 rfl (lv_sub hl [0, 1, 2, 3, 4, 5] rfl) hP hD hS
      · have hi : i < 224 := by
          rcases Nat.lt_or_ge i 224 with z | z
          · exact z
          · exact absurd (nI_le (a := 224) z (by omega)) c_16
        refine lv_aload_n hx hb dX0_spread_18 rfl (lv_at hl 1 rfl) ?_
        refine va_get (D := D) (ci := 0) (v := .ref pm) (C := RX0) (T := TX0) (N := 3) hx hb hts hiX0 hown hK hP 0 rfl rfl 0 (by decide) (hts (.fieldLink RX0 9 "CraneReach$Plan" "moves" "[I") (by decide +kernel)) (fun _ h9 => h9) rfl dX0_spread_19 ?_
        refine lv_iload hx hb dX0_spread_22 (lv_at hl 0 rfl) ?_
        refine lv_iconst (v := -1) hx hb dX0_spread_24 (by decide) ?_
        refine va_iast hx hb hK hP hD hS 1 0 rfl rfl (vp_in_nI hi (by decide)) dX0_spread_25 (fun H locs hP hD hS => ?_)
        have hP : va_P D vwCl [(pn, .inr (0, [.ref pm, .ref pf, .int 0])), (pm, .inl (cI, 224, .inl (upd gm (nI i).toNatClampNeg (-1)))), (pf, .inl (cI, 224, .inl ff)), (rg, .inr (1, [.ref ro, .ref rl, .int pl])), (ro, .inl (cI, 4, .inl fo)), (rl, .inl (cI, 28, .inl (sh fl)))] H := hP
        have hD : va_D A [(pn, .inr (0, [.ref pm, .ref pf, .int 0])), (pm, .inl (cI, 224, .inl (upd gm (nI i).toNatClampNeg (-1)))), (pf, .inl (cI, 224, .inl ff)), (rg, .inr (1, [.ref ro, .ref rl, .int pl])), (ro, .inl (cI, 4, .inl fo)), (rl, .inl (cI, 28, .inl (sh fl)))] := hD
        rw [show (nI i).toNatClampNeg = i from nI_clamp (by omega)] at hP hD
        have hP : va_P D vwCl [(pn, .inr (0, [.ref pm, .ref pf, .int 0])), (pm, .inl (cI, 224, .inl (upd gm i (-1)))), (pf, .inl (cI, 224, .inl ff)), (rg, .inr (1, [.ref ro, .ref rl, .int pl])), (ro, .inl (cI, 4, .inl fo)), (rl, .inl (cI, 28, .inl (sh fl)))] H := hP
        have hD : va_D A [(pn, .inr (0, [.ref pm, .ref pf, .int 0])), (pm, .inl (cI, 224, .inl (upd gm i (-1)))), (pf, .inl (cI, 224, .inl ff)), (rg, .inr (1, [.ref ro, .ref rl, .int pl])), (ro, .inl (cI, 4, .inl fo)), (rl, .inl (cI, 28, .inl (sh fl)))] := hD
        refine lv_iinc (v := (nI i) + 1) (lv' := [(5, .int ((nI i) + 1)), (0, .ref pn), (1, .ref rg), (2, .int tons), (3, .int (nI d)), (4, .int (nI r))]) hx hb dX0_spread_26 hl (k := 0) rfl rfl (by decide) rfl (fun ls hl => ?_)
        refine lv_goto (tgt := 8) hx hb dX0_spread_29 (by decide) ?_
        have hl : lv_has ls 6 [(5, .int (nI (i + 1))), (0, .ref pn), (1, .ref rg), (2, .int tons), (3, .int (nI d)), (4, .int (nI r))] := (show (nI i) + 1 = nI (i + 1) from nI_1 i) ▸ hl
        exact ih (i + 1) _ _ _ _ (by omega) (by omega) (fun j hj => by
              by_cases e : j = i
              · rw [e, pk_us]
              · rw [pk_un e]; exact hg j (by omega)) (lv_sub hl [0, 1, 2, 3, 4, 5] rfl) hP hD hS
  refine lv_aload_n hx hb dX0_spread_0 rfl (lv_at hl 0 rfl) ?_
  refine lv_iconst (v := 0) hx hb dX0_spread_1 (by decide) ?_
  refine va_put (D := D) (ci := 0) (v := .int 0) (ty := .int) (C := RX0) (T := TX0) (N := 3) hx hb hts hiX0 tyX0 tyX0_ok nmX0 hown hK hP hD hS 0 rfl rfl 2 (by decide) (hts (.fieldLink RX0 18 "CraneReach$Plan" "places" "I") (by decide +kernel)) (fun _ h9 => h9) rfl (by decide +kernel) rfl rfl (Nat.le_of_ble_eq_true rfl) dX0_spread_2 (fun H locs hP hD hS => ?_)
  have hP : va_P D vwCl [(pn, .inr (0, [.ref pm, .ref pf, .int 0])), (pm, .inl (cI, 224, .inl fm)), (pf, .inl (cI, 224, .inl ff)), (rg, .inr (1, [.ref ro, .ref rl, .int pl])), (ro, .inl (cI, 4, .inl fo)), (rl, .inl (cI, 28, .inl (sh fl)))] H := hP
  have hD : va_D A [(pn, .inr (0, [.ref pm, .ref pf, .int 0])), (pm, .inl (cI, 224, .inl fm)), (pf, .inl (cI, 224, .inl ff)), (rg, .inr (1, [.ref ro, .ref rl, .int pl])), (ro, .inl (cI, 4, .inl fo)), (rl, .inl (cI, 28, .inl (sh fl)))] := hD
  refine lv_iconst (v := 0) hx hb dX0_spread_5 (by decide) ?_
  refine lv_istore (lv' := [(5, .int 0), (0, .ref pn), (1, .ref rg), (2, .int tons), (3, .int (nI d)), (4, .int (nI r))]) hx hb dX0_spread_6 hl (by decide) rfl (fun ls hl => ?_)
  have hl : lv_has ls 6 [(5, .int (nI 0)), (0, .ref pn), (1, .ref rg), (2, .int tons), (3, .int (nI d)), (4, .int (nI r))] := (show 0 = nI 0 from rfl) ▸ hl
  exact loop1 225 0 _ _ _ _ (by omega) (by omega) (fun j hj => absurd hj (Nat.not_lt_zero j)) (lv_sub hl [0, 1, 2, 3, 4, 5] rfl) hP hD hS
