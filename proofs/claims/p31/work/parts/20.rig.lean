set_option maxHeartbeats 4000000 in
set_option maxRecDepth 100000 in
/-- slant(to, side) -/
theorem k_slant (l : Launch) (D : va_G) (L0 : Nat) (d k : Nat) (hd : d < 8) (hk : k < 4) : Met l yX1_slant wsX1_slant ({ frames := 0, cells := 0, slots := 0, locals := 0 }) (cP L0 D [] [] [.int (nI d), .int (nI k)]) (cR (some (.int (slN d k)))) 0 0 (fun _ => False) := by
  refine Met.ofW (cc := cX1_slant) (maxL := 2) (ret := (some .int)) (by decide) rfl ?_
  intro p e s m args below meth c s₁ B hml hv
  obtain ⟨rfl, hP, hK, hD0, hE0⟩ := hv
  have hx := B.exec
  have hb := B.bytes
  have hRt := B.returns
  have hts := atoms_spec (ws := wsX1_slant) B.pre
  have hown : s.vm.findClass RX1 = some m.cls := findClass_of_methodNamed B.named
  have hlocks := B.notSynchronized
  have hAL : ∀ z9 : Nat, (fun _ : Nat => False) z9 → L0 ≤ z9 := fun z9 h9 => False.elim h9
  generalize hAe : (fun _ : Nat => False) = A at hAL ⊢
  have hS : va_S A s.heap s.heap [] := va_S.rf
  have hl := lv_entry ([.int (nI d), .int (nI k)]) (n := 2) (Nat.le_of_ble_eq_true rfl)
  rw [lg_entry_eq]
  generalize (lg_sl ([.int (nI d), .int (nI k)]) ++ List.replicate (2 - (lg_sl ([.int (nI d), .int (nI k)])).length) Slot.unset).toArray = ls at hl ⊢
  have hl : lv_has ls 2 [(0, .int (nI d)), (1, .int (nI k))] := hl
  refine lv_iload_n hx hb dX1_slant_0 rfl (lv_at hl 0 rfl) ?_
  refine lv_iconst (v := 2) hx hb dX1_slant_1 (by decide) ?_
  refine lv_iload_n hx hb dX1_slant_2 rfl (lv_at hl 1 rfl) ?_
  refine lv_imul hx hb dX1_slant_3 ?_
  refine lv_isub hx hb dX1_slant_4 ?_
  refine lv_bipush (v := 8) hx hb dX1_slant_5 (by decide) ?_
  refine lv_iadd hx hb dX1_slant_7 ?_
  refine lv_bipush (v := 8) hx hb dX1_slant_8 (by decide) ?_
  refine lv_irem hx hb dX1_slant_10 (by decide) ?_
  refine c_top (show (((nI d) - (2 * (nI k))) + 8) - (((nI d) - (2 * (nI k))) + 8) / 8 * 8 = nI ((d + 8 - 2 * k) % 8) from slx d hd k hk) ?_
  have hj : (d + 8 - 2 * k) % 8 < 8 := Nat.mod_lt _ (by decide)
  show W _ _ _ _ _ _ _ _ _ _ _ _ _ _ (MQ below (cR (some (.int (slT ((d + 8 - 2 * k) % 8))))) _ s 0 0 _) _
  generalize (d + 8 - 2 * k) % 8 = j at hj ⊢
  rcases (show j = 0 ∨ j = 1 ∨ j = 2 ∨ j = 3 ∨ j = 4 ∨ j = 5 ∨ j = 6 ∨ j = 7 by omega) with rfl | rfl | rfl | rfl | rfl | rfl | rfl | rfl
  · refine lv_tableIn (off := 45) (tgt := 56) hx hb dX1_slant_11 (by decide) (by decide) (by decide) (by decide) ?_
    refine lv_bipush (v := 10) hx hb dX1_slant_56 (by decide) ?_
    exact W.iret (v := 10) hx hb hRt (fun t ht hW => ⟨rfl, ht⟩) hS.2.2 dX1_slant_58
  · refine lv_tableIn (off := 48) (tgt := 59) hx hb dX1_slant_11 (by decide) (by decide) (by decide) (by decide) ?_
    refine lv_bipush (v := 7) hx hb dX1_slant_59 (by decide) ?_
    exact W.iret (v := 7) hx hb hRt (fun t ht hW => ⟨rfl, ht⟩) hS.2.2 dX1_slant_61
  · refine lv_tableIn (off := 51) (tgt := 62) hx hb dX1_slant_11 (by decide) (by decide) (by decide) (by decide) ?_
    refine lv_iconst (v := 0) hx hb dX1_slant_62 (by decide) ?_
    exact W.iret (v := 0) hx hb hRt (fun t ht hW => ⟨rfl, ht⟩) hS.2.2 dX1_slant_63
  · refine lv_tableIn (off := 53) (tgt := 64) hx hb dX1_slant_11 (by decide) (by decide) (by decide) (by decide) ?_
    refine lv_bipush (v := -7) hx hb dX1_slant_64 (by decide) ?_
    exact W.iret (v := (-7)) hx hb hRt (fun t ht hW => ⟨rfl, ht⟩) hS.2.2 dX1_slant_66
  · refine lv_tableIn (off := 56) (tgt := 67) hx hb dX1_slant_11 (by decide) (by decide) (by decide) (by decide) ?_
    refine lv_bipush (v := -10) hx hb dX1_slant_67 (by decide) ?_
    exact W.iret (v := (-10)) hx hb hRt (fun t ht hW => ⟨rfl, ht⟩) hS.2.2 dX1_slant_69
  · refine lv_tableIn (off := 53) (tgt := 64) hx hb dX1_slant_11 (by decide) (by decide) (by decide) (by decide) ?_
    refine lv_bipush (v := -7) hx hb dX1_slant_64 (by decide) ?_
    exact W.iret (v := (-7)) hx hb hRt (fun t ht hW => ⟨rfl, ht⟩) hS.2.2 dX1_slant_66
  · refine lv_tableIn (off := 51) (tgt := 62) hx hb dX1_slant_11 (by decide) (by decide) (by decide) (by decide) ?_
    refine lv_iconst (v := 0) hx hb dX1_slant_62 (by decide) ?_
    exact W.iret (v := 0) hx hb hRt (fun t ht hW => ⟨rfl, ht⟩) hS.2.2 dX1_slant_63
  · refine lv_tableIn (off := 48) (tgt := 59) hx hb dX1_slant_11 (by decide) (by decide) (by decide) (by decide) ?_
    refine lv_bipush (v := 7) hx hb dX1_slant_59 (by decide) ?_
    exact W.iret (v := 7) hx hb hRt (fun t ht hW => ⟨rfl, ht⟩) hS.2.2 dX1_slant_61
set_option maxHeartbeats 4000000 in
set_option maxRecDepth 100000 in
/-- drawn(side) -/
theorem k_drawn (l : Launch) (D : va_G) (L0 : Nat) (cI : ClassId) (h o q : Nat) (pl : Int32) (fo fl : Nat → Int32) (k : Nat) (hk : k < 4) : Met l yX1_drawn wsX1_drawn ({ frames := 0, cells := 0, slots := 0, locals := 0 }) (cP L0 D [(cI, .int)] [(h, .inr (1, [.ref o, .ref q, .int pl])), (o, .inl (cI, 4, .inl fo)), (q, .inl (cI, 28, .inl fl))] [.ref h, .int (nI k)]) (cR (some (.int (fo k)))) 0 0 (fun _ => False) := by
  refine Met.ofW (cc := cX1_drawn) (maxL := 2) (ret := (some .int)) (by decide) rfl ?_
  intro p e s m args below meth c s₁ B hml hv
  obtain ⟨rfl, hP, hK, hD0, hE0⟩ := hv
  have hx := B.exec
  have hb := B.bytes
  have hRt := B.returns
  have hts := atoms_spec (ws := wsX1_drawn) B.pre
  have hown : s.vm.findClass RX1 = some m.cls := findClass_of_methodNamed B.named
  have hlocks := B.notSynchronized
  have hAL : ∀ z9 : Nat, (fun _ : Nat => False) z9 → L0 ≤ z9 := fun z9 h9 => False.elim h9
  generalize hAe : (fun _ : Nat => False) = A at hAL ⊢
  have hS : va_S A s.heap s.heap [] := va_S.rf
  have hiX1 : ∀ w ∈ u_ws RX1 TX1 3, w ∈ wsX1_drawn := by decide +kernel
  have hl := lv_entry ([.ref h, .int (nI k)]) (n := 2) (Nat.le_of_ble_eq_true rfl)
  rw [lg_entry_eq]
  generalize (lg_sl ([.ref h, .int (nI k)]) ++ List.replicate (2 - (lg_sl ([.ref h, .int (nI k)])).length) Slot.unset).toArray = ls at hl ⊢
  have hl : lv_has ls 2 [(0, .ref h), (1, .int (nI k))] := hl
  refine lv_iload_n hx hb dX1_drawn_0 rfl (lv_at hl 1 rfl) ?_
  refine lv_if_lt (tgt := 22) hx hb dX1_drawn_1 (by decide) (fun c_1 => absurd c_1 (nI_pos (by omega))) (fun _ => ?_)
  refine lv_iload_n hx hb dX1_drawn_4 rfl (lv_at hl 1 rfl) ?_
  refine lv_aload_n hx hb dX1_drawn_5 rfl (lv_at hl 0 rfl) ?_
  refine va_get (D := D) (ci := 1) (v := .ref o) (C := RX1) (T := TX1) (N := 3) hx hb hts hiX1 hown hK hP 0 rfl rfl 0 (by decide) (hts (.fieldLink RX1 9 "CraneReach$Rig" "outs" "[I") (by decide +kernel)) (fun _ h9 => h9) rfl dX1_drawn_6 ?_
  refine va_alen hx hb hK hP 1 0 rfl rfl (v := 4) rfl dX1_drawn_9 ?_
  refine lv_icmp_ge (tgt := 22) hx hb dX1_drawn_10 (by decide) (fun c_2 => absurd c_2 (nI_ge (b := 4) hk (by decide))) (fun _ => ?_)
  refine lv_aload_n hx hb dX1_drawn_13 rfl (lv_at hl 0 rfl) ?_
  refine va_get (D := D) (ci := 1) (v := .ref o) (C := RX1) (T := TX1) (N := 3) hx hb hts hiX1 hown hK hP 0 rfl rfl 0 (by decide) (hts (.fieldLink RX1 9 "CraneReach$Rig" "outs" "[I") (by decide +kernel)) (fun _ h9 => h9) rfl dX1_drawn_14 ?_
  refine lv_iload_n hx hb dX1_drawn_17 rfl (lv_at hl 1 rfl) ?_
  refine va_iald hx hb hK hP 1 0 rfl rfl (vp_in_nI hk (by decide)) dX1_drawn_18 ?_
  refine c_top (show fo (nI k).toNatClampNeg = fo k from by rw [nI_clamp (by omega)]) ?_
  refine lv_goto (tgt := 23) hx hb dX1_drawn_19 (by decide) ?_
  exact W.iret (v := (fo k)) hx hb hRt (fun t ht hW => ⟨rfl, ht⟩) hS.2.2 dX1_drawn_23
set_option maxHeartbeats 4000000 in
set_option maxRecDepth 100000 in
/-- allowed(metres) -/
theorem k_allowed (l : Launch) (D : va_G) (L0 : Nat) (cI : ClassId) (h o q : Nat) (pl : Int32) (fo fl : Nat → Int32) (r : Nat) (hr : 3 ≤ r ∧ r ≤ 30) : Met l yX1_allowed wsX1_allowed ({ frames := 0, cells := 0, slots := 0, locals := 0 }) (cP L0 D [(cI, .int)] [(h, .inr (1, [.ref o, .ref q, .int pl])), (o, .inl (cI, 4, .inl fo)), (q, .inl (cI, 28, .inl fl))] [.ref h, .int (nI r)]) (cR (some (.int (fl (r - 3))))) 0 0 (fun _ => False) := by
  refine Met.ofW (cc := cX1_allowed) (maxL := 3) (ret := (some .int)) (by decide) rfl ?_
  intro p e s m args below meth c s₁ B hml hv
  obtain ⟨rfl, hP, hK, hD0, hE0⟩ := hv
  have hx := B.exec
  have hb := B.bytes
  have hRt := B.returns
  have hts := atoms_spec (ws := wsX1_allowed) B.pre
  have hown : s.vm.findClass RX1 = some m.cls := findClass_of_methodNamed B.named
  have hlocks := B.notSynchronized
  have hAL : ∀ z9 : Nat, (fun _ : Nat => False) z9 → L0 ≤ z9 := fun z9 h9 => False.elim h9
  generalize hAe : (fun _ : Nat => False) = A at hAL ⊢
  have hS : va_S A s.heap s.heap [] := va_S.rf
  have hiX1 : ∀ w ∈ u_ws RX1 TX1 3, w ∈ wsX1_allowed := by decide +kernel
  have hl := lv_entry ([.ref h, .int (nI r)]) (n := 3) (Nat.le_of_ble_eq_true rfl)
  rw [lg_entry_eq]
  generalize (lg_sl ([.ref h, .int (nI r)]) ++ List.replicate (3 - (lg_sl ([.ref h, .int (nI r)])).length) Slot.unset).toArray = ls at hl ⊢
  have hl : lv_has ls 3 [(0, .ref h), (1, .int (nI r))] := hl
  refine lv_iload_n hx hb dX1_allowed_0 rfl (lv_at hl 1 rfl) ?_
  refine lv_iconst (v := 3) hx hb dX1_allowed_1 (by decide) ?_
  refine lv_isub hx hb dX1_allowed_2 ?_
  refine c_top (show (nI r) - 3 = nI (r - 3) from pk_sub hr.1) ?_
  refine lv_istore_n (lv' := [(2, .int (nI (r - 3))), (0, .ref h), (1, .int (nI r))]) hx hb dX1_allowed_3 rfl hl (by decide) rfl (fun ls hl => ?_)
  refine lv_iload_n hx hb dX1_allowed_4 rfl (lv_at hl 0 rfl) ?_
  refine lv_if_lt (tgt := 26) hx hb dX1_allowed_5 (by decide) (fun c_3 => absurd c_3 (nI_pos (by omega))) (fun _ => ?_)
  refine lv_iload_n hx hb dX1_allowed_8 rfl (lv_at hl 0 rfl) ?_
  refine lv_aload_n hx hb dX1_allowed_9 rfl (lv_at hl 1 rfl) ?_
  refine va_get (D := D) (ci := 1) (v := .ref q) (C := RX1) (T := TX1) (N := 3) hx hb hts hiX1 hown hK hP 0 rfl rfl 1 (by decide) (hts (.fieldLink RX1 15 "CraneReach$Rig" "limits" "[I") (by decide +kernel)) (fun _ h9 => h9) rfl dX1_allowed_10 ?_
  refine va_alen hx hb hK hP 2 0 rfl rfl (v := 28) rfl dX1_allowed_13 ?_
  refine lv_icmp_ge (tgt := 26) hx hb dX1_allowed_14 (by decide) (fun c_4 => absurd c_4 (nI_ge (b := 28) (by omega) (by decide))) (fun _ => ?_)
  refine lv_aload_n hx hb dX1_allowed_17 rfl (lv_at hl 1 rfl) ?_
  refine va_get (D := D) (ci := 1) (v := .ref q) (C := RX1) (T := TX1) (N := 3) hx hb hts hiX1 hown hK hP 0 rfl rfl 1 (by decide) (hts (.fieldLink RX1 15 "CraneReach$Rig" "limits" "[I") (by decide +kernel)) (fun _ h9 => h9) rfl dX1_allowed_18 ?_
  refine lv_iload_n hx hb dX1_allowed_21 rfl (lv_at hl 0 rfl) ?_
  refine va_iald hx hb hK hP 2 0 rfl rfl (vp_in_nI (by omega) (by decide)) dX1_allowed_22 ?_
  refine c_top (show fl (nI (r - 3)).toNatClampNeg = fl (r - 3) from by rw [nI_clamp (by omega)]) ?_
  refine lv_goto (tgt := 27) hx hb dX1_allowed_23 (by decide) ?_
  exact W.iret (v := (fl (r - 3))) hx hb hRt (fun t ht hW => ⟨rfl, ht⟩) hS.2.2 dX1_allowed_27
set_option maxHeartbeats 4000000 in
set_option maxRecDepth 100000 in
/-- strain(side, tons, to, metres) -/
theorem k_strain (l : Launch) (D : va_G) (L0 : Nat) (cI : ClassId) (h o q : Nat) (pl : Int32) (fo fl : Nat → Int32) (k d r : Nat) (tons : Int32) (hk : k < 4) (hd : d < 8) : Met l yX1_strain wsX1_strain ({ frames := 1, cells := 0, slots := 0, locals := 21 }) (cP L0 D [(cI, .int)] [(h, .inr (1, [.ref o, .ref q, .int pl])), (o, .inl (cI, 4, .inl fo)), (q, .inl (cI, 28, .inl fl))] [.ref h, .int (nI k), .int tons, .int (nI d), .int (nI r)]) (cR (some (.int (strS fo pl k tons d r)))) 0 0 (fun _ => False) := by
  refine Met.ofW (cc := cX1_strain) (maxL := 7) (ret := (some .int)) (by decide) rfl ?_
  intro p e s m args below meth c s₁ B hml hv
  obtain ⟨rfl, hP, hK, hD0, hE0⟩ := hv
  have hx := B.exec
  have hb := B.bytes
  have hRt := B.returns
  have hts := atoms_spec (ws := wsX1_strain) B.pre
  have hown : s.vm.findClass RX1 = some m.cls := findClass_of_methodNamed B.named
  have hlocks := B.notSynchronized
  have hAL : ∀ z9 : Nat, (fun _ : Nat => False) z9 → L0 ≤ z9 := fun z9 h9 => False.elim h9
  generalize hAe : (fun _ : Nat => False) = A at hAL ⊢
  have hS : va_S A s.heap s.heap [] := va_S.rf
  have hiX1 : ∀ w ∈ u_ws RX1 TX1 3, w ∈ wsX1_strain := by decide +kernel
  have hl := lv_entry ([.ref h, .int (nI k), .int tons, .int (nI d), .int (nI r)]) (n := 7) (Nat.le_of_ble_eq_true rfl)
  rw [lg_entry_eq]
  generalize (lg_sl ([.ref h, .int (nI k), .int tons, .int (nI d), .int (nI r)]) ++ List.replicate (7 - (lg_sl ([.ref h, .int (nI k), .int tons, .int (nI d), .int (nI r)])).length) Slot.unset).toArray = ls at hl ⊢
  have hl : lv_has ls 7 [(0, .ref h), (1, .int (nI k)), (2, .int tons), (3, .int (nI d)), (4, .int (nI r))] := hl
  refine lv_bipush (v := 10) hx hb dX1_strain_0 (by decide) ?_
  refine lv_iconst (v := 2) hx hb dX1_strain_2 (by decide) ?_
  refine lv_aload_n hx hb dX1_strain_3 rfl (lv_at hl 0 rfl) ?_
  refine lv_iload_n hx hb dX1_strain_4 rfl (lv_at hl 1 rfl) ?_
  have hPc := hP.sub (ws' := [(h, .inr (1, [.ref o, .ref q, .int pl])), (o, .inl (cI, 4, .inl fo)), (q, .inl (cI, 28, .inl fl))]) [0, 1, 2] rfl
  have hDc := hD0.sub (ws' := [(h, .inr (1, [.ref o, .ref q, .int pl])), (o, .inl (cI, 4, .inl fo)), (q, .inl (cI, 28, .inl fl))]) [0, 1, 2] (by decide) rfl
  have hKc := hK.sub (tys' := [(cI, .int)]) [0] rfl
  refine c_callR (va_runV (As := [.int (nI k)]) (rest := [.int 2, .int 10]) ⟨hx, hb, hml, hown, hts⟩ (k_drawn l D L0 cI h o q pl fo fl k hk) (cwV 1 hts gX1_strain_X1_drawn rfl rfl rfl (by decide +kernel) ⟨Nat.le_of_ble_eq_true rfl, Nat.le_of_ble_eq_true rfl⟩) ⟨cP_blind, va_recv hKc hPc (ci := 1) (q0 := 0) rfl rfl, cP_of hPc hKc hDc (kE_at hE0 hAL hS)⟩ rfl rfl hl.1 rfl (lv_room (Nat.le_of_ble_eq_true rfl)) dX1_strain_5 ⟨Nat.le_of_ble_eq_true rfl, Nat.le_of_ble_eq_true rfl⟩) ?_
  show W _ _ _ _ _ _ _ _ _ _ _ _ _ _ _ (F0 m 8 ls [.int (fo k), .int 2, .int 10])
  refine lv_iadd hx hb dX1_strain_8 ?_
  refine lv_imul hx hb dX1_strain_9 ?_
  refine lv_istore (lv' := [(5, .int (10 * (2 + (fo k)))), (0, .ref h), (1, .int (nI k)), (2, .int tons), (3, .int (nI d)), (4, .int (nI r))]) hx hb dX1_strain_10 hl (by decide) rfl (fun ls hl => ?_)
  refine lv_iload_n hx hb dX1_strain_12 rfl (lv_at hl 4 rfl) ?_
  refine lv_iload_n hx hb dX1_strain_13 rfl (lv_at hl 2 rfl) ?_
  have hPc := hP.sub (ws' := []) [] rfl
  have hDc := hD0.sub (ws' := []) [] (by decide) rfl
  have hKc := hK.sub (tys' := []) [] rfl
  refine c_callR (va_runS (As := [.int (nI d), .int (nI k)]) (rest := []) ⟨hx, hb, hml, hown, hts⟩ (k_slant l D L0 d k hd hk) (va_cwS 2 hts gX1_strain_X1_slant rfl rfl rfl (by decide +kernel) ⟨Nat.le_of_ble_eq_true rfl, Nat.le_of_ble_eq_true rfl⟩) ⟨cP_blind, cP_of hPc hKc hDc (kE_at hE0 hAL hS)⟩ rfl rfl hl.1 rfl (lv_room (Nat.le_of_ble_eq_true rfl)) dX1_strain_14 ⟨Nat.le_of_ble_eq_true rfl, Nat.le_of_ble_eq_true rfl⟩) ?_
  show W _ _ _ _ _ _ _ _ _ _ _ _ _ _ _ (F0 m 17 ls [.int (slN d k)])
  refine lv_istore (lv' := [(6, .int (slN d k)), (5, .int (10 * (2 + (fo k)))), (0, .ref h), (1, .int (nI k)), (2, .int tons), (3, .int (nI d)), (4, .int (nI r))]) hx hb dX1_strain_17 hl (by decide) rfl (fun ls hl => ?_)
  refine lv_iload_n hx hb dX1_strain_19 rfl (lv_at hl 4 rfl) ?_
  refine lv_iload hx hb dX1_strain_20 (lv_at hl 6 rfl) ?_
  refine lv_iload hx hb dX1_strain_22 (lv_at hl 0 rfl) ?_
  refine lv_imul hx hb dX1_strain_24 ?_
  refine lv_iload hx hb dX1_strain_25 (lv_at hl 1 rfl) ?_
  refine lv_isub hx hb dX1_strain_27 ?_
  refine lv_imul hx hb dX1_strain_28 ?_
  refine lv_aload_n hx hb dX1_strain_29 rfl (lv_at hl 2 rfl) ?_
  refine va_get (D := D) (ci := 1) (v := .int pl) (C := RX1) (T := TX1) (N := 3) hx hb hts hiX1 hown hK hP 0 rfl rfl 2 (by decide) (hts (.fieldLink RX1 18 "CraneReach$Rig" "plates" "I") (by decide +kernel)) (fun _ h9 => h9) rfl dX1_strain_30 ?_
  refine lv_iconst (v := 2) hx hb dX1_strain_33 (by decide) ?_
  refine lv_imul hx hb dX1_strain_34 ?_
  refine lv_iconst (v := 4) hx hb dX1_strain_35 (by decide) ?_
  refine lv_iload hx hb dX1_strain_36 (lv_at hl 0 rfl) ?_
  refine lv_imul hx hb dX1_strain_38 ?_
  refine lv_iload hx hb dX1_strain_39 (lv_at hl 1 rfl) ?_
  refine lv_iadd hx hb dX1_strain_41 ?_
  refine lv_imul hx hb dX1_strain_42 ?_
  refine lv_isub hx hb dX1_strain_43 ?_
  refine lv_bipush (v := 20) hx hb dX1_strain_44 (by decide) ?_
  refine lv_iload hx hb dX1_strain_46 (lv_at hl 1 rfl) ?_
  refine lv_imul hx hb dX1_strain_48 ?_
  refine lv_isub hx hb dX1_strain_49 ?_
  exact W.iret (v := (((tons * (((nI r) * (slN d k)) - (10 * (2 + (fo k))))) - ((pl * 2) * ((4 * (slN d k)) + (10 * (2 + (fo k)))))) - (20 * (10 * (2 + (fo k)))))) hx hb hRt (fun t ht hW => ⟨rfl, ht⟩) hS.2.2 dX1_strain_50
set_option maxHeartbeats 4000000 in
set_option maxRecDepth 100000 in
/-- isSafe(tons, to, metres) -/
theorem k_isSafe (l : Launch) (D : va_G) (L0 : Nat) (cI : ClassId) (h o q : Nat) (pl : Int32) (fo fl : Nat → Int32) (d r : Nat) (tons : Int32) (hd : d < 8) (hr : 3 ≤ r ∧ r ≤ 30) : Met l yX1_isSafe wsX1_isSafe ({ frames := 2, cells := 0, slots := 0, locals := 47 }) (cP L0 D [(cI, .int)] [(h, .inr (1, [.ref o, .ref q, .int pl])), (o, .inl (cI, 4, .inl fo)), (q, .inl (cI, 28, .inl (sh fl)))] [.ref h, .int tons, .int (nI d), .int (nI r)]) (cR (some (.int (bI (safS fo fl pl tons d r))))) 0 0 (fun _ => False) := by
  refine Met.ofW (cc := cX1_isSafe) (maxL := 5) (ret := (some .boolean)) (by decide) rfl ?_
  intro p e s m args below meth c s₁ B hml hv
  obtain ⟨rfl, hP, hK, hD0, hE0⟩ := hv
  have hx := B.exec
  have hb := B.bytes
  have hRt := B.returns
  have hts := atoms_spec (ws := wsX1_isSafe) B.pre
  have hown : s.vm.findClass RX1 = some m.cls := findClass_of_methodNamed B.named
  have hlocks := B.notSynchronized
  have hAL : ∀ z9 : Nat, (fun _ : Nat => False) z9 → L0 ≤ z9 := fun z9 h9 => False.elim h9
  generalize hAe : (fun _ : Nat => False) = A at hAL ⊢
  have hS : va_S A s.heap s.heap [] := va_S.rf
  have hiX1 : ∀ w ∈ u_ws RX1 TX1 3, w ∈ wsX1_isSafe := by decide +kernel
  have hl := lv_entry ([.ref h, .int tons, .int (nI d), .int (nI r)]) (n := 5) (Nat.le_of_ble_eq_true rfl)
  rw [lg_entry_eq]
  generalize (lg_sl ([.ref h, .int tons, .int (nI d), .int (nI r)]) ++ List.replicate (5 - (lg_sl ([.ref h, .int tons, .int (nI d), .int (nI r)])).length) Slot.unset).toArray = ls at hl ⊢
  have hl : lv_has ls 5 [(0, .ref h), (1, .int tons), (2, .int (nI d)), (3, .int (nI r))] := hl
  refine lv_iload_n hx hb dX1_isSafe_0 rfl (lv_at hl 1 rfl) ?_
  refine lv_aload_n hx hb dX1_isSafe_1 rfl (lv_at hl 0 rfl) ?_
  refine lv_iload_n hx hb dX1_isSafe_2 rfl (lv_at hl 3 rfl) ?_
  have hPc := hP.sub (ws' := [(h, .inr (1, [.ref o, .ref q, .int pl])), (o, .inl (cI, 4, .inl fo)), (q, .inl (cI, 28, .inl (sh fl)))]) [0, 1, 2] rfl
  have hDc := hD0.sub (ws' := [(h, .inr (1, [.ref o, .ref q, .int pl])), (o, .inl (cI, 4, .inl fo)), (q, .inl (cI, 28, .inl (sh fl)))]) [0, 1, 2] (by decide) rfl
  have hKc := hK.sub (tys' := [(cI, .int)]) [0] rfl
  refine c_callR (va_runV (As := [.int (nI r)]) (rest := [.int tons]) ⟨hx, hb, hml, hown, hts⟩ (k_allowed l D L0 cI h o q pl fo (sh fl) r hr) (cwV 1 hts gX1_isSafe_X1_allowed rfl rfl rfl (by decide +kernel) ⟨Nat.le_of_ble_eq_true rfl, Nat.le_of_ble_eq_true rfl⟩) ⟨cP_blind, va_recv hKc hPc (ci := 1) (q0 := 0) rfl rfl, cP_of hPc hKc hDc (kE_at hE0 hAL hS)⟩ rfl rfl hl.1 rfl (lv_room (Nat.le_of_ble_eq_true rfl)) dX1_isSafe_3 ⟨Nat.le_of_ble_eq_true rfl, Nat.le_of_ble_eq_true rfl⟩) ?_
  show W _ _ _ _ _ _ _ _ _ _ _ _ _ _ _ (F0 m 6 ls [.int (sh fl (r - 3)), .int tons])
  refine c_top (show sh fl (r - 3) = fl r from sh_at hr.1) ?_
  refine lv_icmp_le (tgt := 11) hx hb dX1_isSafe_6 (by decide) (fun c_5 => ?_) (fun c_5 => ?_)
  · refine lv_iconst (v := 0) hx hb dX1_isSafe_11 (by decide) ?_
    refine lv_istore (lv' := [(4, .int 0), (0, .ref h), (1, .int tons), (2, .int (nI d)), (3, .int (nI r))]) hx hb dX1_isSafe_12 hl (by decide) rfl (fun ls hl => ?_)
    refine lv_iload hx hb dX1_isSafe_14 (lv_at hl 0 rfl) ?_
    refine lv_iconst (v := 4) hx hb dX1_isSafe_16 (by decide) ?_
    refine lv_icmp_ge (tgt := 40) hx hb dX1_isSafe_17 (by decide) (fun c_6 => absurd c_6 (by decide)) (fun _ => ?_)
    refine lv_aload_n hx hb dX1_isSafe_20 rfl (lv_at hl 1 rfl) ?_
    refine lv_iload hx hb dX1_isSafe_21 (lv_at hl 0 rfl) ?_
    refine lv_iload_n hx hb dX1_isSafe_23 rfl (lv_at hl 2 rfl) ?_
    refine lv_iload_n hx hb dX1_isSafe_24 rfl (lv_at hl 3 rfl) ?_
    refine lv_iload_n hx hb dX1_isSafe_25 rfl (lv_at hl 4 rfl) ?_
    have hPc := hP.sub (ws' := [(h, .inr (1, [.ref o, .ref q, .int pl])), (o, .inl (cI, 4, .inl fo)), (q, .inl (cI, 28, .inl (sh fl)))]) [0, 1, 2] rfl
    have hDc := hD0.sub (ws' := [(h, .inr (1, [.ref o, .ref q, .int pl])), (o, .inl (cI, 4, .inl fo)), (q, .inl (cI, 28, .inl (sh fl)))]) [0, 1, 2] (by decide) rfl
    have hKc := hK.sub (tys' := [(cI, .int)]) [0] rfl
    refine c_callR (va_runV (As := [.int (nI 0), .int tons, .int (nI d), .int (nI r)]) (rest := []) ⟨hx, hb, hml, hown, hts⟩ (k_strain l D L0 cI h o q pl fo (sh fl) 0 d r tons (by decide) hd) (cwV 4 hts gX1_isSafe_X1_strain rfl rfl rfl (by decide +kernel) ⟨Nat.le_of_ble_eq_true rfl, Nat.le_of_ble_eq_true rfl⟩) ⟨cP_blind, va_recv hKc hPc (ci := 1) (q0 := 0) rfl rfl, cP_of hPc hKc hDc (kE_at hE0 hAL hS)⟩ rfl rfl hl.1 rfl (lv_room (Nat.le_of_ble_eq_true rfl)) dX1_isSafe_26 ⟨Nat.le_of_ble_eq_true rfl, Nat.le_of_ble_eq_true rfl⟩) ?_
    show W _ _ _ _ _ _ _ _ _ _ _ _ _ _ _ (F0 m 29 ls [.int (strS fo pl 0 tons d r)])
    refine lv_if_le (tgt := 34) hx hb dX1_isSafe_29 (by decide) (fun c_7 => ?_) (fun c_7 => ?_)
    · refine lv_iinc (v := 1) (lv' := [(4, .int 1), (0, .ref h), (1, .int tons), (2, .int (nI d)), (3, .int (nI r))]) hx hb dX1_isSafe_34 hl (k := 0) rfl (by decide) (by decide) rfl (fun ls hl => ?_)
      refine lv_goto (tgt := 14) hx hb dX1_isSafe_37 (by decide) ?_
      refine lv_iload hx hb dX1_isSafe_14 (lv_at hl 0 rfl) ?_
      refine lv_iconst (v := 4) hx hb dX1_isSafe_16 (by decide) ?_
      refine lv_icmp_ge (tgt := 40) hx hb dX1_isSafe_17 (by decide) (fun c_8 => absurd c_8 (by decide)) (fun _ => ?_)
      refine lv_aload_n hx hb dX1_isSafe_20 rfl (lv_at hl 1 rfl) ?_
      refine lv_iload hx hb dX1_isSafe_21 (lv_at hl 0 rfl) ?_
      refine lv_iload_n hx hb dX1_isSafe_23 rfl (lv_at hl 2 rfl) ?_
      refine lv_iload_n hx hb dX1_isSafe_24 rfl (lv_at hl 3 rfl) ?_
      refine lv_iload_n hx hb dX1_isSafe_25 rfl (lv_at hl 4 rfl) ?_
      have hPc := hP.sub (ws' := [(h, .inr (1, [.ref o, .ref q, .int pl])), (o, .inl (cI, 4, .inl fo)), (q, .inl (cI, 28, .inl (sh fl)))]) [0, 1, 2] rfl
      have hDc := hD0.sub (ws' := [(h, .inr (1, [.ref o, .ref q, .int pl])), (o, .inl (cI, 4, .inl fo)), (q, .inl (cI, 28, .inl (sh fl)))]) [0, 1, 2] (by decide) rfl
      have hKc := hK.sub (tys' := [(cI, .int)]) [0] rfl
      refine c_callR (va_runV (As := [.int (nI 1), .int tons, .int (nI d), .int (nI r)]) (rest := []) ⟨hx, hb, hml, hown, hts⟩ (k_strain l D L0 cI h o q pl fo (sh fl) 1 d r tons (by decide) hd) (cwV 4 hts gX1_isSafe_X1_strain rfl rfl rfl (by decide +kernel) ⟨Nat.le_of_ble_eq_true rfl, Nat.le_of_ble_eq_true rfl⟩) ⟨cP_blind, va_recv hKc hPc (ci := 1) (q0 := 0) rfl rfl, cP_of hPc hKc hDc (kE_at hE0 hAL hS)⟩ rfl rfl hl.1 rfl (lv_room (Nat.le_of_ble_eq_true rfl)) dX1_isSafe_26 ⟨Nat.le_of_ble_eq_true rfl, Nat.le_of_ble_eq_true rfl⟩) ?_
      show W _ _ _ _ _ _ _ _ _ _ _ _ _ _ _ (F0 m 29 ls [.int (strS fo pl 1 tons d r)])
      refine lv_if_le (tgt := 34) hx hb dX1_isSafe_29 (by decide) (fun c_9 => ?_) (fun c_9 => ?_)
      · refine lv_iinc (v := 2) (lv' := [(4, .int 2), (0, .ref h), (1, .int tons), (2, .int (nI d)), (3, .int (nI r))]) hx hb dX1_isSafe_34 hl (k := 0) rfl (by decide) (by decide) rfl (fun ls hl => ?_)
        refine lv_goto (tgt := 14) hx hb dX1_isSafe_37 (by decide) ?_
        refine lv_iload hx hb dX1_isSafe_14 (lv_at hl 0 rfl) ?_
        refine lv_iconst (v := 4) hx hb dX1_isSafe_16 (by decide) ?_
        refine lv_icmp_ge (tgt := 40) hx hb dX1_isSafe_17 (by decide) (fun c_10 => absurd c_10 (by decide)) (fun _ => ?_)
        refine lv_aload_n hx hb dX1_isSafe_20 rfl (lv_at hl 1 rfl) ?_
        refine lv_iload hx hb dX1_isSafe_21 (lv_at hl 0 rfl) ?_
        refine lv_iload_n hx hb dX1_isSafe_23 rfl (lv_at hl 2 rfl) ?_
        refine lv_iload_n hx hb dX1_isSafe_24 rfl (lv_at hl 3 rfl) ?_
        refine lv_iload_n hx hb dX1_isSafe_25 rfl (lv_at hl 4 rfl) ?_
        have hPc := hP.sub (ws' := [(h, .inr (1, [.ref o, .ref q, .int pl])), (o, .inl (cI, 4, .inl fo)), (q, .inl (cI, 28, .inl (sh fl)))]) [0, 1, 2] rfl
        have hDc := hD0.sub (ws' := [(h, .inr (1, [.ref o, .ref q, .int pl])), (o, .inl (cI, 4, .inl fo)), (q, .inl (cI, 28, .inl (sh fl)))]) [0, 1, 2] (by decide) rfl
        have hKc := hK.sub (tys' := [(cI, .int)]) [0] rfl
        refine c_callR (va_runV (As := [.int (nI 2), .int tons, .int (nI d), .int (nI r)]) (rest := []) ⟨hx, hb, hml, hown, hts⟩ (k_strain l D L0 cI h o q pl fo (sh fl) 2 d r tons (by decide) hd) (cwV 4 hts gX1_isSafe_X1_strain rfl rfl rfl (by decide +kernel) ⟨Nat.le_of_ble_eq_true rfl, Nat.le_of_ble_eq_true rfl⟩) ⟨cP_blind, va_recv hKc hPc (ci := 1) (q0 := 0) rfl rfl, cP_of hPc hKc hDc (kE_at hE0 hAL hS)⟩ rfl rfl hl.1 rfl (lv_room (Nat.le_of_ble_eq_true rfl)) dX1_isSafe_26 ⟨Nat.le_of_ble_eq_true rfl, Nat.le_of_ble_eq_true rfl⟩) ?_
        show W _ _ _ _ _ _ _ _ _ _ _ _ _ _ _ (F0 m 29 ls [.int (strS fo pl 2 tons d r)])
        refine lv_if_le (tgt := 34) hx hb dX1_isSafe_29 (by decide) (fun c_11 => ?_) (fun c_11 => ?_)
        · refine lv_iinc (v := 3) (lv' := [(4, .int 3), (0, .ref h), (1, .int tons), (2, .int (nI d)), (3, .int (nI r))]) hx hb dX1_isSafe_34 hl (k := 0) rfl (by decide) (by decide) rfl (fun ls hl => ?_)
          refine lv_goto (tgt := 14) hx hb dX1_isSafe_37 (by decide) ?_
          refine lv_iload hx hb dX1_isSafe_14 (lv_at hl 0 rfl) ?_
          refine lv_iconst (v := 4) hx hb dX1_isSafe_16 (by decide) ?_
          refine lv_icmp_ge (tgt := 40) hx hb dX1_isSafe_17 (by decide) (fun c_12 => absurd c_12 (by decide)) (fun _ => ?_)
          refine lv_aload_n hx hb dX1_isSafe_20 rfl (lv_at hl 1 rfl) ?_
          refine lv_iload hx hb dX1_isSafe_21 (lv_at hl 0 rfl) ?_
          refine lv_iload_n hx hb dX1_isSafe_23 rfl (lv_at hl 2 rfl) ?_
          refine lv_iload_n hx hb dX1_isSafe_24 rfl (lv_at hl 3 rfl) ?_
          refine lv_iload_n hx hb dX1_isSafe_25 rfl (lv_at hl 4 rfl) ?_
          have hPc := hP.sub (ws' := [(h, .inr (1, [.ref o, .ref q, .int pl])), (o, .inl (cI, 4, .inl fo)), (q, .inl (cI, 28, .inl (sh fl)))]) [0, 1, 2] rfl
          have hDc := hD0.sub (ws' := [(h, .inr (1, [.ref o, .ref q, .int pl])), (o, .inl (cI, 4, .inl fo)), (q, .inl (cI, 28, .inl (sh fl)))]) [0, 1, 2] (by decide) rfl
          have hKc := hK.sub (tys' := [(cI, .int)]) [0] rfl
          refine c_callR (va_runV (As := [.int (nI 3), .int tons, .int (nI d), .int (nI r)]) (rest := []) ⟨hx, hb, hml, hown, hts⟩ (k_strain l D L0 cI h o q pl fo (sh fl) 3 d r tons (by decide) hd) (cwV 4 hts gX1_isSafe_X1_strain rfl rfl rfl (by decide +kernel) ⟨Nat.le_of_ble_eq_true rfl, Nat.le_of_ble_eq_true rfl⟩) ⟨cP_blind, va_recv hKc hPc (ci := 1) (q0 := 0) rfl rfl, cP_of hPc hKc hDc (kE_at hE0 hAL hS)⟩ rfl rfl hl.1 rfl (lv_room (Nat.le_of_ble_eq_true rfl)) dX1_isSafe_26 ⟨Nat.le_of_ble_eq_true rfl, Nat.le_of_ble_eq_true rfl⟩) ?_
          show W _ _ _ _ _ _ _ _ _ _ _ _ _ _ _ (F0 m 29 ls [.int (strS fo pl 3 tons d r)])
          refine lv_if_le (tgt := 34) hx hb dX1_isSafe_29 (by decide) (fun c_13 => ?_) (fun c_13 => ?_)
          · refine lv_iinc (v := 4) (lv' := [(4, .int 4), (0, .ref h), (1, .int tons), (2, .int (nI d)), (3, .int (nI r))]) hx hb dX1_isSafe_34 hl (k := 0) rfl (by decide) (by decide) rfl (fun ls hl => ?_)
            refine lv_goto (tgt := 14) hx hb dX1_isSafe_37 (by decide) ?_
            refine lv_iload hx hb dX1_isSafe_14 (lv_at hl 0 rfl) ?_
            refine lv_iconst (v := 4) hx hb dX1_isSafe_16 (by decide) ?_
            refine lv_icmp_ge (tgt := 40) hx hb dX1_isSafe_17 (by decide) (fun _ => ?_) (fun c_14 => absurd (by decide) c_14)
            refine lv_iconst (v := 1) hx hb dX1_isSafe_40 (by decide) ?_
            exact W.zret (v := 1) hx hb hRt (rfl) (fun t ht hW => ⟨by rw [safS_yes c_5 c_7 c_9 c_11 c_13], ht⟩) hS.2.2 dX1_isSafe_41
          · refine lv_iconst (v := 0) hx hb dX1_isSafe_32 (by decide) ?_
            exact W.zret (v := 0) hx hb hRt (rfl) (fun t ht hW => ⟨by rw [safS_n3 c_13], ht⟩) hS.2.2 dX1_isSafe_33
        · refine lv_iconst (v := 0) hx hb dX1_isSafe_32 (by decide) ?_
          exact W.zret (v := 0) hx hb hRt (rfl) (fun t ht hW => ⟨by rw [safS_n2 c_11], ht⟩) hS.2.2 dX1_isSafe_33
      · refine lv_iconst (v := 0) hx hb dX1_isSafe_32 (by decide) ?_
        exact W.zret (v := 0) hx hb hRt (rfl) (fun t ht hW => ⟨by rw [safS_n1 c_9], ht⟩) hS.2.2 dX1_isSafe_33
    · refine lv_iconst (v := 0) hx hb dX1_isSafe_32 (by decide) ?_
      exact W.zret (v := 0) hx hb hRt (rfl) (fun t ht hW => ⟨by rw [safS_n0 c_7], ht⟩) hS.2.2 dX1_isSafe_33
  · refine lv_iconst (v := 0) hx hb dX1_isSafe_9 (by decide) ?_
    exact W.zret (v := 0) hx hb hRt (rfl) (fun t ht hW => ⟨by rw [safS_no c_5], ht⟩) hS.2.2 dX1_isSafe_10
