set_option maxHeartbeats 4000000 in
set_option maxRecDepth 100000 in
/-- comeTo(its, d, r, far) -/
theorem q_comeTo (l : Launch) (D : va_G) (L0 : Nat) (cI : ClassId) (mm ao al aw aq d r : Nat) (th ld pl li tl mo : Int32) (fo fl : Nat → Int32) (fa fq : Nat → Int32) (tons far : Int32) (S : bS) (d2 r2 k : Nat) (hd : d2 < 8) (hr : r2 < 100) (hI : bInv S) (hC : bM S fa fq) (hfar : far = nI k) (hk : k ≤ S.2.2) : Met l yX3_comeTo wsX3_comeTo ({ frames := 3, cells := 0, slots := 0, locals := 81 }) (cP L0 D [(cI, .int)] [(mm, .inr (3, [.int th, .int (nI d), .int (nI r), .int ld, .int pl, .ref ao, .ref al, .int li, .int tl, .int mo, .ref aw, .ref aq, .int (nI S.2.2)])), (ao, .inl (cI, 4, .inl fo)), (al, .inl (cI, 31, .inl fl)), (aw, .inl (cI, 248, .inl fa)), (aq, .inl (cI, 248, .inl fq))] [.ref mm, .int tons, .int (nI d2), .int (nI r2), .int far]) (cB none (fun H => ∃ fa9 fq9 : Nat → Int32, bM (vis (safS fo fl pl tons) far d2 r2 S) fa9 fq9 ∧ va_P D vwCl [(mm, .inr (3, [.int th, .int (nI d), .int (nI r), .int ld, .int pl, .ref ao, .ref al, .int li, .int tl, .int mo, .ref aw, .ref aq, .int (nI (vis (safS fo fl pl tons) far d2 r2 S).2.2)])), (ao, .inl (cI, 4, .inl fo)), (al, .inl (cI, 31, .inl fl)), (aw, .inl (cI, 248, .inl fa9)), (aq, .inl (cI, 248, .inl fq9))] H) (cA [(mm, .inr (3, [.int th, .int (nI d), .int (nI r), .int ld, .int pl, .ref ao, .ref al, .int li, .int tl, .int mo, .ref aw, .ref aq, .int (nI S.2.2)])), (ao, .inl (cI, 4, .inl fo)), (al, .inl (cI, 31, .inl fl)), (aw, .inl (cI, 248, .inl fa)), (aq, .inl (cI, 248, .inl fq))])) 0 0 (cA [(mm, .inr (3, [.int th, .int (nI d), .int (nI r), .int ld, .int pl, .ref ao, .ref al, .int li, .int tl, .int mo, .ref aw, .ref aq, .int (nI S.2.2)])), (ao, .inl (cI, 4, .inl fo)), (al, .inl (cI, 31, .inl fl)), (aw, .inl (cI, 248, .inl fa)), (aq, .inl (cI, 248, .inl fq))]) := by
  refine Met.ofW (cc := cX3_comeTo) (maxL := 5) (ret := none) (by decide) rfl ?_
  intro p e s m args below meth c s₁ B hml hv
  obtain ⟨rfl, hP, hK, hD0, hE0⟩ := hv
  have hx := B.exec
  have hb := B.bytes
  have hRt := B.returns
  have hts := atoms_spec (ws := wsX3_comeTo) B.pre
  have hown : s.vm.findClass RX3 = some m.cls := findClass_of_methodNamed B.named
  have hlocks := B.notSynchronized
  have hAL : ∀ z9 : Nat, cA [(mm, .inr (3, [.int th, .int (nI d), .int (nI r), .int ld, .int pl, .ref ao, .ref al, .int li, .int tl, .int mo, .ref aw, .ref aq, .int (nI S.2.2)])), (ao, .inl (cI, 4, .inl fo)), (al, .inl (cI, 31, .inl fl)), (aw, .inl (cI, 248, .inl fa)), (aq, .inl (cI, 248, .inl fq))] z9 → L0 ≤ z9 := fun z9 ⟨k9, e9, h9⟩ => hD0.2 k9 (z9, e9) h9
  have hD : va_D (cA [(mm, .inr (3, [.int th, .int (nI d), .int (nI r), .int ld, .int pl, .ref ao, .ref al, .int li, .int tl, .int mo, .ref aw, .ref aq, .int (nI S.2.2)])), (ao, .inl (cI, 4, .inl fo)), (al, .inl (cI, 31, .inl fl)), (aw, .inl (cI, 248, .inl fa)), (aq, .inl (cI, 248, .inl fq))]) [(mm, .inr (3, [.int th, .int (nI d), .int (nI r), .int ld, .int pl, .ref ao, .ref al, .int li, .int tl, .int mo, .ref aw, .ref aq, .int (nI S.2.2)])), (ao, .inl (cI, 4, .inl fo)), (al, .inl (cI, 31, .inl fl)), (aw, .inl (cI, 248, .inl fa)), (aq, .inl (cI, 248, .inl fq))] := ⟨hD0.1, fun k9 z9 h9 => cA_of h9⟩
  generalize hAe : cA [(mm, .inr (3, [.int th, .int (nI d), .int (nI r), .int ld, .int pl, .ref ao, .ref al, .int li, .int tl, .int mo, .ref aw, .ref aq, .int (nI S.2.2)])), (ao, .inl (cI, 4, .inl fo)), (al, .inl (cI, 31, .inl fl)), (aw, .inl (cI, 248, .inl fa)), (aq, .inl (cI, 248, .inl fq))] = A at hD hAL ⊢
  have hS : va_S A s.heap s.heap [] := va_S.rf
  have hiX3 : ∀ w ∈ u_ws RX3 TX3 13, w ∈ wsX3_comeTo := by decide +kernel
  have hl := lv_entry ([.ref mm, .int tons, .int (nI d2), .int (nI r2), .int far]) (n := 5) (Nat.le_of_ble_eq_true rfl)
  rw [lg_entry_eq]
  generalize (lg_sl ([.ref mm, .int tons, .int (nI d2), .int (nI r2), .int far]) ++ List.replicate (5 - (lg_sl ([.ref mm, .int tons, .int (nI d2), .int (nI r2), .int far])).length) Slot.unset).toArray = ls at hl ⊢
  have hl : lv_has ls 5 [(0, .ref mm), (1, .int tons), (2, .int (nI d2)), (3, .int (nI r2)), (4, .int far)] := hl
  refine lv_iload_n hx hb dX3_comeTo_0 rfl (lv_at hl 3 rfl) ?_
  have hPc := hP.sub (ws' := []) [] rfl
  have hDc : va_D (fun q : Nat => L0 ≤ q) [] := (hD.sub (ws' := []) [] (by decide) rfl).weaken (fun _ z9 _ h9 => hAL _ h9)
  have hKc := hK.sub (tys' := []) [] rfl
  refine c_callR (va_runS (As := [.int (nI r2)]) (rest := []) ⟨hx, hb, hml, hown, hts⟩ (q_isReach l D L0 (nI r2)) (va_cwS 1 hts gX3_comeTo_X3_isReach rfl rfl rfl (by decide +kernel) ⟨Nat.le_of_ble_eq_true rfl, Nat.le_of_ble_eq_true rfl⟩) ⟨cP_blind, cP_of hPc hKc hDc (kE_at hE0 hAL hS)⟩ rfl rfl hl.1 rfl (lv_room (Nat.le_of_ble_eq_true rfl)) dX3_comeTo_1 ⟨Nat.le_of_ble_eq_true rfl, Nat.le_of_ble_eq_true rfl⟩) ?_
  show W _ _ _ _ _ _ _ _ _ _ _ _ _ _ _ (F0 m 4 ls [.int (bI (decide (3 ≤ nI r2) && decide (nI r2 ≤ 30)))])
  by_cases cr : 3 ≤ r2 ∧ r2 ≤ 30
  · refine c_top (show (bI (decide (3 ≤ nI r2) && decide (nI r2 ≤ 30))) = 1 from isR_yes cr) ?_
    refine lv_if_eq (tgt := 32) hx hb dX3_comeTo_4 (by decide) (fun c_2 => absurd c_2 (by decide)) (fun _ => ?_)
    have hp : 8 * r2 + d2 < 248 := by omega
    refine lv_aload_n hx hb dX3_comeTo_7 rfl (lv_at hl 0 rfl) ?_
    refine va_get (D := D) (ci := 3) (v := .ref aw) (C := RX3) (T := TX3) (N := 13) hx hb hts hiX3 hown hK hP 0 rfl rfl 10 (by decide) (hts (.fieldLink RX3 20 "CraneReachModel" "away" "[I") (by decide +kernel)) (fun _ h9 => h9) rfl dX3_comeTo_8 ?_
    refine lv_bipush (v := 8) hx hb dX3_comeTo_11 (by decide) ?_
    refine lv_iload_n hx hb dX3_comeTo_13 rfl (lv_at hl 3 rfl) ?_
    refine lv_imul hx hb dX3_comeTo_14 ?_
    refine lv_iload_n hx hb dX3_comeTo_15 rfl (lv_at hl 2 rfl) ?_
    refine lv_iadd hx hb dX3_comeTo_16 ?_
    refine c_top (show ((8 * (nI r2)) + (nI d2)) = nI (8 * r2 + d2) from c8_c d2 r2) ?_
    refine va_iald hx hb hK hP 3 0 rfl rfl (vp_in_nI hp (by decide)) dX3_comeTo_17 ?_
    refine c_top (show (fa (nI (8 * r2 + d2)).toNatClampNeg) = fa (8 * r2 + d2) from by rw [nI_clamp (by omega)]) ?_
    refine c_top (show (fa (8 * r2 + d2)) = S.1 (8 * r2 + d2) from hC.1 _ hp) ?_
    refine lv_iconst (v := -1) hx hb dX3_comeTo_18 (by decide) ?_
    refine lv_icmp_ne (tgt := 32) hx hb dX3_comeTo_19 (by decide) (fun c_3 => ?_) (fun c_3 => ?_)
    · exact W.vret hx hb hRt (fun t ht hW => ⟨⟨rfl, by rw [ht]; exact by rw [vis_no (fun z => c_3 z.2.1)]; exact ⟨fa, fq, hC, hP⟩⟩, hS.F ht⟩) hS.2.2 dX3_comeTo_32
    · have hm : S.1 (8 * r2 + d2) = -1 := c_3
      have hn := bInv_room hI (c := 8 * r2 + d2) (by omega) hm
      refine lv_aload_n hx hb dX3_comeTo_22 rfl (lv_at hl 0 rfl) ?_
      refine lv_iload_n hx hb dX3_comeTo_23 rfl (lv_at hl 1 rfl) ?_
      refine lv_iload_n hx hb dX3_comeTo_24 rfl (lv_at hl 2 rfl) ?_
      refine lv_iload_n hx hb dX3_comeTo_25 rfl (lv_at hl 3 rfl) ?_
      have hPc := hP.sub (ws' := [(mm, .inr (3, [.int th, .int (nI d), .int (nI r), .int ld, .int pl, .ref ao, .ref al, .int li, .int tl, .int mo, .ref aw, .ref aq, .int (nI S.2.2)])), (ao, .inl (cI, 4, .inl fo)), (al, .inl (cI, 31, .inl fl))]) [0, 1, 2] rfl
      have hDc : va_D (fun q : Nat => L0 ≤ q) [(mm, .inr (3, [.int th, .int (nI d), .int (nI r), .int ld, .int pl, .ref ao, .ref al, .int li, .int tl, .int mo, .ref aw, .ref aq, .int (nI S.2.2)])), (ao, .inl (cI, 4, .inl fo)), (al, .inl (cI, 31, .inl fl))] := (hD.sub (ws' := [(mm, .inr (3, [.int th, .int (nI d), .int (nI r), .int ld, .int pl, .ref ao, .ref al, .int li, .int tl, .int mo, .ref aw, .ref aq, .int (nI S.2.2)])), (ao, .inl (cI, 4, .inl fo)), (al, .inl (cI, 31, .inl fl))]) [0, 1, 2] (by decide) rfl).weaken (fun _ z9 _ h9 => hAL _ h9)
      have hKc := hK.sub (tys' := [(cI, .int)]) [0] rfl
      refine c_callR (va_runV (As := [.int tons, .int (nI d2), .int (nI r2)]) (rest := []) ⟨hx, hb, hml, hown, hts⟩ (q_isSafe l D L0 cI mm ao al aw aq d r th ld pl li tl mo (nI S.2.2) fo fl d2 r2 tons hd cr) (cwV 3 hts gX3_comeTo_X3_isSafe rfl rfl rfl (by decide +kernel) ⟨Nat.le_of_ble_eq_true rfl, Nat.le_of_ble_eq_true rfl⟩) ⟨cP_blind, va_recv hKc hPc (ci := 3) (q0 := 0) rfl rfl, cP_of hPc hKc hDc (kE_at hE0 hAL hS)⟩ rfl rfl hl.1 rfl (lv_room (Nat.le_of_ble_eq_true rfl)) dX3_comeTo_26 ⟨Nat.le_of_ble_eq_true rfl, Nat.le_of_ble_eq_true rfl⟩) ?_
      show W _ _ _ _ _ _ _ _ _ _ _ _ _ _ _ (F0 m 29 ls [.int (bI (safS fo fl pl tons d2 r2))])
      obtain ⟨b_4, hbv_5⟩ : ∃ z9 : Bool, z9 = safS fo fl pl tons d2 r2 := ⟨_, rfl⟩
      refine c_top (show (bI (safS fo fl pl tons d2 r2)) = bI b_4 from by rw [hbv_5]) ?_
      refine lv_if_ne (tgt := 33) hx hb dX3_comeTo_29 (by decide) (fun c_6 => ?_) (fun c_6 => ?_)
      · have hs : safS fo fl pl tons d2 r2 = true := by rw [← hbv_5]; cases b_4 with | true => rfl | false => exact absurd rfl c_6
        have hy : (3 ≤ r2 ∧ r2 ≤ 30) ∧ S.1 (8 * r2 + d2) = -1 ∧ safS fo fl pl tons d2 r2 = true := ⟨cr, hm, hs⟩
        refine lv_aload_n hx hb dX3_comeTo_33 rfl (lv_at hl 0 rfl) ?_
        refine va_get (D := D) (ci := 3) (v := .ref aw) (C := RX3) (T := TX3) (N := 13) hx hb hts hiX3 hown hK hP 0 rfl rfl 10 (by decide) (hts (.fieldLink RX3 20 "CraneReachModel" "away" "[I") (by decide +kernel)) (fun _ h9 => h9) rfl dX3_comeTo_34 ?_
        refine lv_bipush (v := 8) hx hb dX3_comeTo_37 (by decide) ?_
        refine lv_iload_n hx hb dX3_comeTo_39 rfl (lv_at hl 3 rfl) ?_
        refine lv_imul hx hb dX3_comeTo_40 ?_
        refine lv_iload_n hx hb dX3_comeTo_41 rfl (lv_at hl 2 rfl) ?_
        refine lv_iadd hx hb dX3_comeTo_42 ?_
        refine c_top (show ((8 * (nI r2)) + (nI d2)) = nI (8 * r2 + d2) from c8_c d2 r2) ?_
        refine lv_iload hx hb dX3_comeTo_43 (lv_at hl 4 rfl) ?_
        refine va_iast hx hb hK hP hD hS 3 0 rfl rfl (vp_in_nI hp (by decide)) dX3_comeTo_45 (fun H locs hP hD hS => ?_)
        have hP : va_P D vwCl [(mm, .inr (3, [.int th, .int (nI d), .int (nI r), .int ld, .int pl, .ref ao, .ref al, .int li, .int tl, .int mo, .ref aw, .ref aq, .int (nI S.2.2)])), (ao, .inl (cI, 4, .inl fo)), (al, .inl (cI, 31, .inl fl)), (aw, .inl (cI, 248, .inl (upd fa (nI (8 * r2 + d2)).toNatClampNeg far))), (aq, .inl (cI, 248, .inl fq))] H := hP
        have hD : va_D A [(mm, .inr (3, [.int th, .int (nI d), .int (nI r), .int ld, .int pl, .ref ao, .ref al, .int li, .int tl, .int mo, .ref aw, .ref aq, .int (nI S.2.2)])), (ao, .inl (cI, 4, .inl fo)), (al, .inl (cI, 31, .inl fl)), (aw, .inl (cI, 248, .inl (upd fa (nI (8 * r2 + d2)).toNatClampNeg far))), (aq, .inl (cI, 248, .inl fq))] := hD
        rw [show (nI (8 * r2 + d2)).toNatClampNeg = (8 * r2 + d2) from nI_clamp (by omega)] at hP hD
        have hP : va_P D vwCl [(mm, .inr (3, [.int th, .int (nI d), .int (nI r), .int ld, .int pl, .ref ao, .ref al, .int li, .int tl, .int mo, .ref aw, .ref aq, .int (nI S.2.2)])), (ao, .inl (cI, 4, .inl fo)), (al, .inl (cI, 31, .inl fl)), (aw, .inl (cI, 248, .inl (upd fa (8 * r2 + d2) far))), (aq, .inl (cI, 248, .inl fq))] H := hP
        have hD : va_D A [(mm, .inr (3, [.int th, .int (nI d), .int (nI r), .int ld, .int pl, .ref ao, .ref al, .int li, .int tl, .int mo, .ref aw, .ref aq, .int (nI S.2.2)])), (ao, .inl (cI, 4, .inl fo)), (al, .inl (cI, 31, .inl fl)), (aw, .inl (cI, 248, .inl (upd fa (8 * r2 + d2) far))), (aq, .inl (cI, 248, .inl fq))] := hD
        refine lv_aload_n hx hb dX3_comeTo_46 rfl (lv_at hl 0 rfl) ?_
        refine va_get (D := D) (ci := 3) (v := .ref aq) (C := RX3) (T := TX3) (N := 13) hx hb hts hiX3 hown hK hP 0 rfl rfl 11 (by decide) (hts (.fieldLink RX3 23 "CraneReachModel" "queue" "[I") (by decide +kernel)) (fun _ h9 => h9) rfl dX3_comeTo_47 ?_
        refine lv_aload_n hx hb dX3_comeTo_50 rfl (lv_at hl 0 rfl) ?_
        refine va_get (D := D) (ci := 3) (v := .int (nI S.2.2)) (C := RX3) (T := TX3) (N := 13) hx hb hts hiX3 hown hK hP 0 rfl rfl 12 (by decide) (hts (.fieldLink RX3 116 "CraneReachModel" "many" "I") (by decide +kernel)) (fun _ h9 => h9) rfl dX3_comeTo_51 ?_
        refine lv_bipush (v := 8) hx hb dX3_comeTo_54 (by decide) ?_
        refine lv_iload_n hx hb dX3_comeTo_56 rfl (lv_at hl 3 rfl) ?_
        refine lv_imul hx hb dX3_comeTo_57 ?_
        refine lv_iload_n hx hb dX3_comeTo_58 rfl (lv_at hl 2 rfl) ?_
        refine lv_iadd hx hb dX3_comeTo_59 ?_
        refine c_top (show ((8 * (nI r2)) + (nI d2)) = nI (8 * r2 + d2) from c8_c d2 r2) ?_
        refine va_iast hx hb hK hP hD hS 4 0 rfl rfl (vp_in_nI (by omega) (by decide)) dX3_comeTo_60 (fun H locs hP hD hS => ?_)
        have hP : va_P D vwCl [(mm, .inr (3, [.int th, .int (nI d), .int (nI r), .int ld, .int pl, .ref ao, .ref al, .int li, .int tl, .int mo, .ref aw, .ref aq, .int (nI S.2.2)])), (ao, .inl (cI, 4, .inl fo)), (al, .inl (cI, 31, .inl fl)), (aw, .inl (cI, 248, .inl (upd fa (8 * r2 + d2) far))), (aq, .inl (cI, 248, .inl (upd fq (nI S.2.2).toNatClampNeg (nI (8 * r2 + d2)))))] H := hP
        have hD : va_D A [(mm, .inr (3, [.int th, .int (nI d), .int (nI r), .int ld, .int pl, .ref ao, .ref al, .int li, .int tl, .int mo, .ref aw, .ref aq, .int (nI S.2.2)])), (ao, .inl (cI, 4, .inl fo)), (al, .inl (cI, 31, .inl fl)), (aw, .inl (cI, 248, .inl (upd fa (8 * r2 + d2) far))), (aq, .inl (cI, 248, .inl (upd fq (nI S.2.2).toNatClampNeg (nI (8 * r2 + d2)))))] := hD
        rw [show (nI S.2.2).toNatClampNeg = S.2.2 from nI_clamp (by omega)] at hP hD
        have hP : va_P D vwCl [(mm, .inr (3, [.int th, .int (nI d), .int (nI r), .int ld, .int pl, .ref ao, .ref al, .int li, .int tl, .int mo, .ref aw, .ref aq, .int (nI S.2.2)])), (ao, .inl (cI, 4, .inl fo)), (al, .inl (cI, 31, .inl fl)), (aw, .inl (cI, 248, .inl (upd fa (8 * r2 + d2) far))), (aq, .inl (cI, 248, .inl (upd fq S.2.2 (nI (8 * r2 + d2)))))] H := hP
        have hD : va_D A [(mm, .inr (3, [.int th, .int (nI d), .int (nI r), .int ld, .int pl, .ref ao, .ref al, .int li, .int tl, .int mo, .ref aw, .ref aq, .int (nI S.2.2)])), (ao, .inl (cI, 4, .inl fo)), (al, .inl (cI, 31, .inl fl)), (aw, .inl (cI, 248, .inl (upd fa (8 * r2 + d2) far))), (aq, .inl (cI, 248, .inl (upd fq S.2.2 (nI (8 * r2 + d2)))))] := hD
        refine lv_aload_n hx hb dX3_comeTo_61 rfl (lv_at hl 0 rfl) ?_
        refine lv_dup hx hb dX3_comeTo_62 rfl ?_
        refine va_get (D := D) (ci := 3) (v := .int (nI S.2.2)) (C := RX3) (T := TX3) (N := 13) hx hb hts hiX3 hown hK hP 0 rfl rfl 12 (by decide) (hts (.fieldLink RX3 116 "CraneReachModel" "many" "I") (by decide +kernel)) (fun _ h9 => h9) rfl dX3_comeTo_63 ?_
        refine lv_iconst (v := 1) hx hb dX3_comeTo_66 (by decide) ?_
        refine lv_iadd hx hb dX3_comeTo_67 ?_
        refine c_top (show ((nI S.2.2) + 1) = nI (S.2.2 + 1) from nI_1 _) ?_
        refine va_put (D := D) (ci := 3) (v := .int (nI (S.2.2 + 1))) (ty := .int) (C := RX3) (T := TX3) (N := 13) hx hb hts hiX3 tyX3 tyX3_ok nmX3 hown hK hP hD hS 0 rfl rfl 12 (by decide) (hts (.fieldLink RX3 116 "CraneReachModel" "many" "I") (by decide +kernel)) (fun _ h9 => h9) rfl (by decide +kernel) rfl rfl (Nat.le_of_ble_eq_true rfl) dX3_comeTo_68 (fun H locs hP hD hS => ?_)
        have hP : va_P D vwCl [(mm, .inr (3, [.int th, .int (nI d), .int (nI r), .int ld, .int pl, .ref ao, .ref al, .int li, .int tl, .int mo, .ref aw, .ref aq, .int (nI (S.2.2 + 1))])), (ao, .inl (cI, 4, .inl fo)), (al, .inl (cI, 31, .inl fl)), (aw, .inl (cI, 248, .inl (upd fa (8 * r2 + d2) far))), (aq, .inl (cI, 248, .inl (upd fq S.2.2 (nI (8 * r2 + d2)))))] H := hP
        have hD : va_D A [(mm, .inr (3, [.int th, .int (nI d), .int (nI r), .int ld, .int pl, .ref ao, .ref al, .int li, .int tl, .int mo, .ref aw, .ref aq, .int (nI (S.2.2 + 1))])), (ao, .inl (cI, 4, .inl fo)), (al, .inl (cI, 31, .inl fl)), (aw, .inl (cI, 248, .inl (upd fa (8 * r2 + d2) far))), (aq, .inl (cI, 248, .inl (upd fq S.2.2 (nI (8 * r2 + d2)))))] := hD
        exact W.vret hx hb hRt (fun t ht hW => ⟨⟨rfl, by rw [ht]; exact by rw [vis_yes hy]; exact ⟨_, _, vis_yes hy ▸ bM_vis hC hy, hP⟩⟩, hS.F ht⟩) hS.2.2 dX3_comeTo_71
      · have hs : safS fo fl pl tons d2 r2 = false := by rw [← hbv_5]; cases b_4 with | false => rfl | true => exact absurd c_6 (by decide)
        exact W.vret hx hb hRt (fun t ht hW => ⟨⟨rfl, by rw [ht]; exact by rw [vis_no (fun z => by rw [hs] at z; exact absurd z.2.2 (by decide))]; exact ⟨fa, fq, hC, hP⟩⟩, hS.F ht⟩) hS.2.2 dX3_comeTo_32
  · refine c_top (show (bI (decide (3 ≤ nI r2) && decide (nI r2 ≤ 30))) = 0 from isR_no hr cr) ?_
    refine lv_if_eq (tgt := 32) hx hb dX3_comeTo_4 (by decide) (fun _ => ?_) (fun c_1 => absurd (rfl) c_1)
    exact W.vret hx hb hRt (fun t ht hW => ⟨⟨rfl, by rw [ht]; exact by rw [vis_no (fun z => cr z.1)]; exact ⟨fa, fq, hC, hP⟩⟩, hS.F ht⟩) hS.2.2 dX3_comeTo_32
set_option maxHeartbeats 4000000 in
set_option maxRecDepth 100000 in
/-- goOut(its) -/
theorem q_goOut (l : Launch) (D : va_G) (L0 : Nat) (cI : ClassId) (mm ao al aw aq d r : Nat) (th ld pl li tl mo mn : Int32) (fo fl : Nat → Int32) (fa fq : Nat → Int32) (tons : Int32) (hd : d < 8) (hr : 3 ≤ r ∧ r ≤ 30) : Met l yX3_goOut wsX3_goOut ({ frames := 4, cells := 0, slots := 0, locals := 105 }) (cP L0 D [(cI, .int)] [(mm, .inr (3, [.int th, .int (nI d), .int (nI r), .int ld, .int pl, .ref ao, .ref al, .int li, .int tl, .int mo, .ref aw, .ref aq, .int mn])), (ao, .inl (cI, 4, .inl fo)), (al, .inl (cI, 31, .inl fl)), (aw, .inl (cI, 248, .inl fa)), (aq, .inl (cI, 248, .inl fq))] [.ref mm, .int tons]) (cB none (fun H => ∃ fa9 fq9 : Nat → Int32, bM ((goS (safS fo fl pl tons) d r)) fa9 fq9 ∧ va_P D vwCl [(mm, .inr (3, [.int th, .int (nI d), .int (nI r), .int ld, .int pl, .ref ao, .ref al, .int li, .int tl, .int mo, .ref aw, .ref aq, .int (nI ((goS (safS fo fl pl tons) d r)).2.2)])), (ao, .inl (cI, 4, .inl fo)), (al, .inl (cI, 31, .inl fl)), (aw, .inl (cI, 248, .inl fa9)), (aq, .inl (cI, 248, .inl fq9))] H) (cA [(mm, .inr (3, [.int th, .int (nI d), .int (nI r), .int ld, .int pl, .ref ao, .ref al, .int li, .int tl, .int mo, .ref aw, .ref aq, .int mn])), (ao, .inl (cI, 4, .inl fo)), (al, .inl (cI, 31, .inl fl)), (aw, .inl (cI, 248, .inl fa)), (aq, .inl (cI, 248, .inl fq))])) 0 0 (cA [(mm, .inr (3, [.int th, .int (nI d), .int (nI r), .int ld, .int pl, .ref ao, .ref al, .int li, .int tl, .int mo, .ref aw, .ref aq, .int mn])), (ao, .inl (cI, 4, .inl fo)), (al, .inl (cI, 31, .inl fl)), (aw, .inl (cI, 248, .inl fa)), (aq, .inl (cI, 248, .inl fq))]) := by
  refine Met.ofW (cc := cX3_goOut) (maxL := 6) (ret := none) (by decide) rfl ?_
  intro p e s m args below meth c s₁ B hml hv
  obtain ⟨rfl, hP, hK, hD0, hE0⟩ := hv
  have hx := B.exec
  have hb := B.bytes
  have hRt := B.returns
  have hts := atoms_spec (ws := wsX3_goOut) B.pre
  have hown : s.vm.findClass RX3 = some m.cls := findClass_of_methodNamed B.named
  have hlocks := B.notSynchronized
  have hAL : ∀ z9 : Nat, cA [(mm, .inr (3, [.int th, .int (nI d), .int (nI r), .int ld, .int pl, .ref ao, .ref al, .int li, .int tl, .int mo, .ref aw, .ref aq, .int mn])), (ao, .inl (cI, 4, .inl fo)), (al, .inl (cI, 31, .inl fl)), (aw, .inl (cI, 248, .inl fa)), (aq, .inl (cI, 248, .inl fq))] z9 → L0 ≤ z9 := fun z9 ⟨k9, e9, h9⟩ => hD0.2 k9 (z9, e9) h9
  have hD : va_D (cA [(mm, .inr (3, [.int th, .int (nI d), .int (nI r), .int ld, .int pl, .ref ao, .ref al, .int li, .int tl, .int mo, .ref aw, .ref aq, .int mn])), (ao, .inl (cI, 4, .inl fo)), (al, .inl (cI, 31, .inl fl)), (aw, .inl (cI, 248, .inl fa)), (aq, .inl (cI, 248, .inl fq))]) [(mm, .inr (3, [.int th, .int (nI d), .int (nI r), .int ld, .int pl, .ref ao, .ref al, .int li, .int tl, .int mo, .ref aw, .ref aq, .int mn])), (ao, .inl (cI, 4, .inl fo)), (al, .inl (cI, 31, .inl fl)), (aw, .inl (cI, 248, .inl fa)), (aq, .inl (cI, 248, .inl fq))] := ⟨hD0.1, fun k9 z9 h9 => cA_of h9⟩
  generalize hAe : cA [(mm, .inr (3, [.int th, .int (nI d), .int (nI r), .int ld, .int pl, .ref ao, .ref al, .int li, .int tl, .int mo, .ref aw, .ref aq, .int mn])), (ao, .inl (cI, 4, .inl fo)), (al, .inl (cI, 31, .inl fl)), (aw, .inl (cI, 248, .inl fa)), (aq, .inl (cI, 248, .inl fq))] = A at hD hAL ⊢
  have hS : va_S A s.heap s.heap [] := va_S.rf
  have hiX3 : ∀ w ∈ u_ws RX3 TX3 13, w ∈ wsX3_goOut := by decide +kernel
  have hl := lv_entry ([.ref mm, .int tons]) (n := 6) (Nat.le_of_ble_eq_true rfl)
  rw [lg_entry_eq]
  generalize (lg_sl ([.ref mm, .int tons]) ++ List.replicate (6 - (lg_sl ([.ref mm, .int tons])).length) Slot.unset).toArray = ls at hl ⊢
  have hl : lv_has ls 6 [(0, .ref mm), (1, .int tons)] := hl
  have loop2 : ∀ (n : Nat) (i : Nat) (S : bS) (ga : Nat → Int32) (gq : Nat → Int32) (H : Heap) (locs : List Loc) (ls : Array Slot), i + n = 225 → bInv S → i ≤ S.2.2 → bM S ga gq → bfs (safS fo fl pl tons) n i S = (goS (safS fo fl pl tons) d r) → lv_has ls 6 [(2, .int (nI i)), (0, .ref mm), (1, .int tons)] → va_P D vwCl [(mm, .inr (3, [.int th, .int (nI d), .int (nI r), .int ld, .int pl, .ref ao, .ref al, .int li, .int tl, .int mo, .ref aw, .ref aq, .int (nI S.2.2)])), (ao, .inl (cI, 4, .inl fo)), (al, .inl (cI, 31, .inl fl)), (aw, .inl (cI, 248, .inl ga)), (aq, .inl (cI, 248, .inl gq))] H → va_D A [(mm, .inr (3, [.int th, .int (nI d), .int (nI r), .int ld, .int pl, .ref ao, .ref al, .int li, .int tl, .int mo, .ref aw, .ref aq, .int (nI S.2.2)])), (ao, .inl (cI, 4, .inl fo)), (al, .inl (cI, 31, .inl fl)), (aw, .inl (cI, 248, .inl ga)), (aq, .inl (cI, 248, .inl gq))] → va_S A s.heap H locs → W p l e (headSpec wsX3_goOut ({ frames := 4, cells := 0, slots := 0, locals := 105 })).room s m ([.ref mm, .int tons]).toArray below meth c H locs 0 0 (MQ below (cB none (fun H => ∃ fa9 fq9 : Nat → Int32, bM ((goS (safS fo fl pl tons) d r)) fa9 fq9 ∧ va_P D vwCl [(mm, .inr (3, [.int th, .int (nI d), .int (nI r), .int ld, .int pl, .ref ao, .ref al, .int li, .int tl, .int mo, .ref aw, .ref aq, .int (nI ((goS (safS fo fl pl tons) d r)).2.2)])), (ao, .inl (cI, 4, .inl fo)), (al, .inl (cI, 31, .inl fl)), (aw, .inl (cI, 248, .inl fa9)), (aq, .inl (cI, 248, .inl fq9))] H) A) ([.ref mm, .int tons]).toArray s 0 0 A) (F0 m 43 ls []) := by
    intro n
    induction n with
    | zero =>
      intro i S ga gq H locs ls hn hI hle hC hG hl hP hD hS
      exact absurd (bInv_le hI) (by omega)
    | succ n ih =>
      intro i S ga gq H locs ls hn hI hle hC hG hl hP hD hS
      have hle2 := bInv_le hI
      refine lv_iload_n hx hb dX3_goOut_43 rfl (lv_at hl 0 rfl) ?_
      refine lv_aload_n hx hb dX3_goOut_44 rfl (lv_at hl 1 rfl) ?_
      refine va_get (D := D) (ci := 3) (v := .int (nI S.2.2)) (C := RX3) (T := TX3) (N := 13) hx hb hts hiX3 hown hK hP 0 rfl rfl 12 (by decide) (hts (.fieldLink RX3 116 "CraneReachModel" "many" "I") (by decide +kernel)) (fun _ h9 => h9) rfl dX3_goOut_45 ?_
      refine lv_icmp_ge (tgt := 150) hx hb dX3_goOut_48 (by decide) (fun c_7 => ?_) (fun c_7 => ?_)
      · have e : S = (goS (safS fo fl pl tons) d r) := by
          have z : ¬ i < S.2.2 := fun z => nI_ge z (by omega) c_7
          rw [← hG, bfs_stop z]
        rw [e] at hC hP
        exact W.vret hx hb hRt (fun t ht hW => ⟨⟨rfl, by rw [ht]; exact ⟨_, _, hC, hP⟩⟩, hS.F ht⟩) hS.2.2 dX3_goOut_150
      · have hi : i < S.2.2 := by
          rcases Nat.lt_or_ge i S.2.2 with z | z
          · exact z
          · exact absurd (nI_le z (by omega)) c_7
        obtain ⟨ct, hct⟩ : ∃ ct, S.2.1 i = ct := ⟨_, rfl⟩
        obtain ⟨hc1, hc2, -⟩ := hI.1 i hi
        obtain ⟨k, hk1, hk2, hk3⟩ := bInv_far hI hi
        rw [hct] at hc1 hc2 hk2 hk3
        have hqi : gq i = nI ct := by rw [hC.2 i hi, hct]
        have hdc : ct % 8 < 8 := Nat.mod_lt _ (by decide)
        refine lv_aload_n hx hb dX3_goOut_51 rfl (lv_at hl 1 rfl) ?_
        refine va_get (D := D) (ci := 3) (v := .ref aq) (C := RX3) (T := TX3) (N := 13) hx hb hts hiX3 hown hK hP 0 rfl rfl 11 (by decide) (hts (.fieldLink RX3 23 "CraneReachModel" "queue" "[I") (by decide +kernel)) (fun _ h9 => h9) rfl dX3_goOut_52 ?_
        refine lv_iload_n hx hb dX3_goOut_55 rfl (lv_at hl 0 rfl) ?_
        refine va_iald hx hb hK hP 4 0 rfl rfl (vp_in_nI (by omega) (by decide)) dX3_goOut_56 ?_
        refine c_top (show (gq (nI i).toNatClampNeg) = gq i from by rw [nI_clamp (by omega)]) ?_
        refine c_top (show (gq i) = nI ct from hqi) ?_
        refine lv_bipush (v := 8) hx hb dX3_goOut_57 (by decide) ?_
        refine lv_irem hx hb dX3_goOut_59 (by decide) ?_
        refine c_top (show ((nI ct) - (nI ct) / 8 * 8) = nI (ct % 8) from c8_d ct hc2) ?_
        refine lv_istore_n (lv' := [(3, .int (nI (ct % 8))), (2, .int (nI i)), (0, .ref mm), (1, .int tons)]) hx hb dX3_goOut_60 rfl hl (by decide) rfl (fun ls hl => ?_)
        refine lv_aload_n hx hb dX3_goOut_61 rfl (lv_at hl 2 rfl) ?_
        refine va_get (D := D) (ci := 3) (v := .ref aq) (C := RX3) (T := TX3) (N := 13) hx hb hts hiX3 hown hK hP 0 rfl rfl 11 (by decide) (hts (.fieldLink RX3 23 "CraneReachModel" "queue" "[I") (by decide +kernel)) (fun _ h9 => h9) rfl dX3_goOut_62 ?_
        refine lv_iload_n hx hb dX3_goOut_65 rfl (lv_at hl 1 rfl) ?_
        refine va_iald hx hb hK hP 4 0 rfl rfl (vp_in_nI (by omega) (by decide)) dX3_goOut_66 ?_
        refine c_top (show (gq (nI i).toNatClampNeg) = gq i from by rw [nI_clamp (by omega)]) ?_
        refine c_top (show (gq i) = nI ct from hqi) ?_
        refine lv_bipush (v := 8) hx hb dX3_goOut_67 (by decide) ?_
        refine lv_idiv hx hb dX3_goOut_69 (by decide) ?_
        refine c_top (show ((nI ct) / 8) = nI (ct / 8) from c8_r ct hc2) ?_
        refine lv_istore (lv' := [(4, .int (nI (ct / 8))), (3, .int (nI (ct % 8))), (2, .int (nI i)), (0, .ref mm), (1, .int tons)]) hx hb dX3_goOut_70 hl (by decide) rfl (fun ls hl => ?_)
        refine lv_aload_n hx hb dX3_goOut_72 rfl (lv_at hl 3 rfl) ?_
        refine va_get (D := D) (ci := 3) (v := .ref aw) (C := RX3) (T := TX3) (N := 13) hx hb hts hiX3 hown hK hP 0 rfl rfl 10 (by decide) (hts (.fieldLink RX3 20 "CraneReachModel" "away" "[I") (by decide +kernel)) (fun _ h9 => h9) rfl dX3_goOut_73 ?_
        refine lv_aload_n hx hb dX3_goOut_76 rfl (lv_at hl 3 rfl) ?_
        refine va_get (D := D) (ci := 3) (v := .ref aq) (C := RX3) (T := TX3) (N := 13) hx hb hts hiX3 hown hK hP 0 rfl rfl 11 (by decide) (hts (.fieldLink RX3 23 "CraneReachModel" "queue" "[I") (by decide +kernel)) (fun _ h9 => h9) rfl dX3_goOut_77 ?_
        refine lv_iload_n hx hb dX3_goOut_80 rfl (lv_at hl 2 rfl) ?_
        refine va_iald hx hb hK hP 4 0 rfl rfl (vp_in_nI (by omega) (by decide)) dX3_goOut_81 ?_
        refine c_top (show (gq (nI i).toNatClampNeg) = gq i from by rw [nI_clamp (by omega)]) ?_
        refine c_top (show (gq i) = nI ct from hqi) ?_
        refine va_iald hx hb hK hP 3 0 rfl rfl (vp_in_nI hc2 (by decide)) dX3_goOut_82 ?_
        refine c_top (show (ga (nI ct).toNatClampNeg) = ga ct from by rw [nI_clamp (by omega)]) ?_
        refine c_top (show (ga ct) = S.1 ct from hC.1 ct hc2) ?_
        refine lv_iconst (v := 1) hx hb dX3_goOut_83 (by decide) ?_
        refine lv_iadd hx hb dX3_goOut_84 ?_
        refine lv_istore (lv' := [(5, .int ((S.1 ct) + 1)), (4, .int (nI (ct / 8))), (3, .int (nI (ct % 8))), (2, .int (nI i)), (0, .ref mm), (1, .int tons)]) hx hb dX3_goOut_85 hl (by decide) rfl (fun ls hl => ?_)
        refine lv_aload_n hx hb dX3_goOut_87 rfl (lv_at hl 4 rfl) ?_
        refine lv_iload_n hx hb dX3_goOut_88 rfl (lv_at hl 5 rfl) ?_
        refine lv_iload_n hx hb dX3_goOut_89 rfl (lv_at hl 2 rfl) ?_
        refine lv_iconst (v := 1) hx hb dX3_goOut_90 (by decide) ?_
        refine lv_iadd hx hb dX3_goOut_91 ?_
        refine lv_bipush (v := 8) hx hb dX3_goOut_92 (by decide) ?_
        refine lv_irem hx hb dX3_goOut_94 (by decide) ?_
        refine c_top (show (((nI (ct % 8)) + 1) - ((nI (ct % 8)) + 1) / 8 * 8) = nI ((ct % 8 + 1) % 8) from m8_1 _ hdc) ?_
        refine lv_iload hx hb dX3_goOut_95 (lv_at hl 1 rfl) ?_
        refine lv_iload hx hb dX3_goOut_97 (lv_at hl 0 rfl) ?_
        have hPc := hP.sub (ws' := [(mm, .inr (3, [.int th, .int (nI d), .int (nI r), .int ld, .int pl, .ref ao, .ref al, .int li, .int tl, .int mo, .ref aw, .ref aq, .int (nI S.2.2)])), (ao, .inl (cI, 4, .inl fo)), (al, .inl (cI, 31, .inl fl)), (aw, .inl (cI, 248, .inl ga)), (aq, .inl (cI, 248, .inl gq))]) [0, 1, 2, 3, 4] rfl
        have hDc : va_D (fun q : Nat => L0 ≤ q) [(mm, .inr (3, [.int th, .int (nI d), .int (nI r), .int ld, .int pl, .ref ao, .ref al, .int li, .int tl, .int mo, .ref aw, .ref aq, .int (nI S.2.2)])), (ao, .inl (cI, 4, .inl fo)), (al, .inl (cI, 31, .inl fl)), (aw, .inl (cI, 248, .inl ga)), (aq, .inl (cI, 248, .inl gq))] := (hD.sub (ws' := [(mm, .inr (3, [.int th, .int (nI d), .int (nI r), .int ld, .int pl, .ref ao, .ref al, .int li, .int tl, .int mo, .ref aw, .ref aq, .int (nI S.2.2)])), (ao, .inl (cI, 4, .inl fo)), (al, .inl (cI, 31, .inl fl)), (aw, .inl (cI, 248, .inl ga)), (aq, .inl (cI, 248, .inl gq))]) [0, 1, 2, 3, 4] (by decide) rfl).weaken (fun _ z9 _ h9 => hAL _ h9)
        have hKc := hK.sub (tys' := [(cI, .int)]) [0] rfl
        refine c_callB (va_runV (As := [.int tons, .int (nI ((ct % 8 + 1) % 8)), .int (nI (ct / 8)), .int ((S.1 ct) + 1)]) (rest := []) ⟨hx, hb, hml, hown, hts⟩ (q_comeTo l D L0 cI mm ao al aw aq d r th ld pl li tl mo fo fl ga gq tons (S.1 ct + 1) S ((ct % 8 + 1) % 8) (ct / 8) (k + 1) (Nat.mod_lt _ (by decide)) (by omega) hI hC hk3 (by omega)) (cwV 4 hts gX3_goOut_X3_comeTo rfl rfl rfl (by decide +kernel) ⟨Nat.le_of_ble_eq_true rfl, Nat.le_of_ble_eq_true rfl⟩) ⟨cP_blind, va_recv hKc hPc (ci := 3) (q0 := 0) rfl rfl, cP_of hPc hKc hDc (kE_at hE0 hAL hS)⟩ rfl rfl hl.1 rfl (lv_room (Nat.le_of_ble_eq_true rfl)) dX3_goOut_99 ⟨Nat.le_of_ble_eq_true rfl, Nat.le_of_ble_eq_true rfl⟩) hS (fun z9 _ ⟨k9, e9, h9⟩ => (hD.sub (ws' := [(mm, .inr (3, [.int th, .int (nI d), .int (nI r), .int ld, .int pl, .ref ao, .ref al, .int li, .int tl, .int mo, .ref aw, .ref aq, .int (nI S.2.2)])), (ao, .inl (cI, 4, .inl fo)), (al, .inl (cI, 31, .inl fl)), (aw, .inl (cI, 248, .inl ga)), (aq, .inl (cI, 248, .inl gq))]) [0, 1, 2, 3, 4] (by decide) rfl).2 k9 (z9, e9) h9) (fun z9 ⟨k9, e9, h9⟩ => (hD.sub (ws' := [(mm, .inr (3, [.int th, .int (nI d), .int (nI r), .int ld, .int pl, .ref ao, .ref al, .int li, .int tl, .int mo, .ref aw, .ref aq, .int (nI S.2.2)])), (ao, .inl (cI, 4, .inl fo)), (al, .inl (cI, 31, .inl fl)), (aw, .inl (cI, 248, .inl ga)), (aq, .inl (cI, 248, .inl gq))]) [0, 1, 2, 3, 4] (by decide) rfl).2 k9 (z9, e9) h9) (fun H1 locs hB hz1 hk1 hS => ?_)
        obtain ⟨ga1, gq1, hC1, hB⟩ := hB
        obtain ⟨hP, hD⟩ := c_join (ws' := [(mm, .inr (3, [.int th, .int (nI d), .int (nI r), .int ld, .int pl, .ref ao, .ref al, .int li, .int tl, .int mo, .ref aw, .ref aq, .int (nI (vis (safS fo fl pl tons) (S.1 ct + 1) ((ct % 8 + 1) % 8) (ct / 8) (S)).2.2)])), (ao, .inl (cI, 4, .inl fo)), (al, .inl (cI, 31, .inl fl)), (aw, .inl (cI, 248, .inl ga1)), (aq, .inl (cI, 248, .inl gq1))]) (wr := []) (w1 := [(mm, .inr (3, [.int th, .int (nI d), .int (nI r), .int ld, .int pl, .ref ao, .ref al, .int li, .int tl, .int mo, .ref aw, .ref aq, .int (nI (vis (safS fo fl pl tons) (S.1 ct + 1) ((ct % 8 + 1) % 8) (ct / 8) (S)).2.2)])), (ao, .inl (cI, 4, .inl fo)), (al, .inl (cI, 31, .inl fl)), (aw, .inl (cI, 248, .inl ga1)), (aq, .inl (cI, 248, .inl gq1))]) hP hD [0, 1, 2, 3, 4] [] [0, 1, 2, 3, 4] rfl rfl (by decide) (by decide) hk1 hB rfl rfl rfl (by decide)
        generalize H1 = H at hP hS ⊢
        show W _ _ _ _ _ _ _ _ _ _ _ _ _ _ _ (F0 m 102 ls [])
        have hI1 : bInv (vis (safS fo fl pl tons) (S.1 ct + 1) ((ct % 8 + 1) % 8) (ct / 8) (S)) := vis_invF hk3 hI (Nat.mod_lt _ (by decide)) (by omega)
        have hn1 := (vis_n (sf := safS fo fl pl tons) (far := (S.1 ct + 1)) (d := ((ct % 8 + 1) % 8)) (r := (ct / 8)) (S := S)).1
        refine lv_aload_n hx hb dX3_goOut_102 rfl (lv_at hl 4 rfl) ?_
        refine lv_iload_n hx hb dX3_goOut_103 rfl (lv_at hl 5 rfl) ?_
        refine lv_iload_n hx hb dX3_goOut_104 rfl (lv_at hl 2 rfl) ?_
        refine lv_bipush (v := 8) hx hb dX3_goOut_105 (by decide) ?_
        refine lv_iadd hx hb dX3_goOut_107 ?_
        refine lv_iconst (v := 1) hx hb dX3_goOut_108 (by decide) ?_
        refine lv_isub hx hb dX3_goOut_109 ?_
        refine lv_bipush (v := 8) hx hb dX3_goOut_110 (by decide) ?_
        refine lv_irem hx hb dX3_goOut_112 (by decide) ?_
        refine c_top (show ((((nI (ct % 8)) + 8) - 1) - (((nI (ct % 8)) + 8) - 1) / 8 * 8) = nI ((ct % 8 + 7) % 8) from m8_7 _ hdc) ?_
        refine lv_iload hx hb dX3_goOut_113 (lv_at hl 1 rfl) ?_
        refine lv_iload hx hb dX3_goOut_115 (lv_at hl 0 rfl) ?_
        have hPc := hP.sub (ws' := [(mm, .inr (3, [.int th, .int (nI d), .int (nI r), .int ld, .int pl, .ref ao, .ref al, .int li, .int tl, .int mo, .ref aw, .ref aq, .int (nI (vis (safS fo fl pl tons) (S.1 ct + 1) ((ct % 8 + 1) % 8) (ct / 8) (S)).2.2)])), (ao, .inl (cI, 4, .inl fo)), (al, .inl (cI, 31, .inl fl)), (aw, .inl (cI, 248, .inl ga1)), (aq, .inl (cI, 248, .inl gq1))]) [0, 1, 2, 3, 4] rfl
        have hDc : va_D (fun q : Nat => L0 ≤ q) [(mm, .inr (3, [.int th, .int (nI d), .int (nI r), .int ld, .int pl, .ref ao, .ref al, .int li, .int tl, .int mo, .ref aw, .ref aq, .int (nI (vis (safS fo fl pl tons) (S.1 ct + 1) ((ct % 8 + 1) % 8) (ct / 8) (S)).2.2)])), (ao, .inl (cI, 4, .inl fo)), (al, .inl (cI, 31, .inl fl)), (aw, .inl (cI, 248, .inl ga1)), (aq, .inl (cI, 248, .inl gq1))] := (hD.sub (ws' := [(mm, .inr (3, [.int th, .int (nI d), .int (nI r), .int ld, .int pl, .ref ao, .ref al, .int li, .int tl, .int mo, .ref aw, .ref aq, .int (nI (vis (safS fo fl pl tons) (S.1 ct + 1) ((ct % 8 + 1) % 8) (ct / 8) (S)).2.2)])), (ao, .inl (cI, 4, .inl fo)), (al, .inl (cI, 31, .inl fl)), (aw, .inl (cI, 248, .inl ga1)), (aq, .inl (cI, 248, .inl gq1))]) [0, 1, 2, 3, 4] (by decide) rfl).weaken (fun _ z9 _ h9 => hAL _ h9)
        have hKc := hK.sub (tys' := [(cI, .int)]) [0] rfl
        refine c_callB (va_runV (As := [.int tons, .int (nI ((ct % 8 + 7) % 8)), .int (nI (ct / 8)), .int ((S.1 ct) + 1)]) (rest := []) ⟨hx, hb, hml, hown, hts⟩ (q_comeTo l D L0 cI mm ao al aw aq d r th ld pl li tl mo fo fl ga1 gq1 tons (S.1 ct + 1) (vis (safS fo fl pl tons) (S.1 ct + 1) ((ct % 8 + 1) % 8) (ct / 8) (S)) ((ct % 8 + 7) % 8) (ct / 8) (k + 1) (Nat.mod_lt _ (by decide)) (by omega) hI1 hC1 hk3 (by omega)) (cwV 4 hts gX3_goOut_X3_comeTo rfl rfl rfl (by decide +kernel) ⟨Nat.le_of_ble_eq_true rfl, Nat.le_of_ble_eq_true rfl⟩) ⟨cP_blind, va_recv hKc hPc (ci := 3) (q0 := 0) rfl rfl, cP_of hPc hKc hDc (kE_at hE0 hAL hS)⟩ rfl rfl hl.1 rfl (lv_room (Nat.le_of_ble_eq_true rfl)) dX3_goOut_117 ⟨Nat.le_of_ble_eq_true rfl, Nat.le_of_ble_eq_true rfl⟩) hS (fun z9 _ ⟨k9, e9, h9⟩ => (hD.sub (ws' := [(mm, .inr (3, [.int th, .int (nI d), .int (nI r), .int ld, .int pl, .ref ao, .ref al, .int li, .int tl, .int mo, .ref aw, .ref aq, .int (nI (vis (safS fo fl pl tons) (S.1 ct + 1) ((ct % 8 + 1) % 8) (ct / 8) (S)).2.2)])), (ao, .inl (cI, 4, .inl fo)), (al, .inl (cI, 31, .inl fl)), (aw, .inl (cI, 248, .inl ga1)), (aq, .inl (cI, 248, .inl gq1))]) [0, 1, 2, 3, 4] (by decide) rfl).2 k9 (z9, e9) h9) (fun z9 ⟨k9, e9, h9⟩ => (hD.sub (ws' := [(mm, .inr (3, [.int th, .int (nI d), .int (nI r), .int ld, .int pl, .ref ao, .ref al, .int li, .int tl, .int mo, .ref aw, .ref aq, .int (nI (vis (safS fo fl pl tons) (S.1 ct + 1) ((ct % 8 + 1) % 8) (ct / 8) (S)).2.2)])), (ao, .inl (cI, 4, .inl fo)), (al, .inl (cI, 31, .inl fl)), (aw, .inl (cI, 248, .inl ga1)), (aq, .inl (cI, 248, .inl gq1))]) [0, 1, 2, 3, 4] (by decide) rfl).2 k9 (z9, e9) h9) (fun H1 locs hB hz1 hk1 hS => ?_)
        obtain ⟨ga2, gq2, hC2, hB⟩ := hB
        obtain ⟨hP, hD⟩ := c_join (ws' := [(mm, .inr (3, [.int th, .int (nI d), .int (nI r), .int ld, .int pl, .ref ao, .ref al, .int li, .int tl, .int mo, .ref aw, .ref aq, .int (nI (vis (safS fo fl pl tons) (S.1 ct + 1) ((ct % 8 + 7) % 8) (ct / 8) (vis (safS fo fl pl tons) (S.1 ct + 1) ((ct % 8 + 1) % 8) (ct / 8) (S))).2.2)])), (ao, .inl (cI, 4, .inl fo)), (al, .inl (cI, 31, .inl fl)), (aw, .inl (cI, 248, .inl ga2)), (aq, .inl (cI, 248, .inl gq2))]) (wr := []) (w1 := [(mm, .inr (3, [.int th, .int (nI d), .int (nI r), .int ld, .int pl, .ref ao, .ref al, .int li, .int tl, .int mo, .ref aw, .ref aq, .int (nI (vis (safS fo fl pl tons) (S.1 ct + 1) ((ct % 8 + 7) % 8) (ct / 8) (vis (safS fo fl pl tons) (S.1 ct + 1) ((ct % 8 + 1) % 8) (ct / 8) (S))).2.2)])), (ao, .inl (cI, 4, .inl fo)), (al, .inl (cI, 31, .inl fl)), (aw, .inl (cI, 248, .inl ga2)), (aq, .inl (cI, 248, .inl gq2))]) hP hD [0, 1, 2, 3, 4] [] [0, 1, 2, 3, 4] rfl rfl (by decide) (by decide) hk1 hB rfl rfl rfl (by decide)
        generalize H1 = H at hP hS ⊢
        show W _ _ _ _ _ _ _ _ _ _ _ _ _ _ _ (F0 m 120 ls [])
        have hI2 : bInv (vis (safS fo fl pl tons) (S.1 ct + 1) ((ct % 8 + 7) % 8) (ct / 8) (vis (safS fo fl pl tons) (S.1 ct + 1) ((ct % 8 + 1) % 8) (ct / 8) (S))) := vis_invF hk3 hI1 (Nat.mod_lt _ (by decide)) (by omega)
        have hn2 := (vis_n (sf := safS fo fl pl tons) (far := (S.1 ct + 1)) (d := ((ct % 8 + 7) % 8)) (r := (ct / 8)) (S := vis (safS fo fl pl tons) (S.1 ct + 1) ((ct % 8 + 1) % 8) (ct / 8) (S))).1
        refine lv_aload_n hx hb dX3_goOut_120 rfl (lv_at hl 4 rfl) ?_
        refine lv_iload_n hx hb dX3_goOut_121 rfl (lv_at hl 5 rfl) ?_
        refine lv_iload_n hx hb dX3_goOut_122 rfl (lv_at hl 2 rfl) ?_
        refine lv_iload hx hb dX3_goOut_123 (lv_at hl 1 rfl) ?_
        refine lv_iconst (v := 1) hx hb dX3_goOut_125 (by decide) ?_
        refine lv_iadd hx hb dX3_goOut_126 ?_
        refine c_top (show ((nI (ct / 8)) + 1) = nI (ct / 8 + 1) from nI_1 _) ?_
        refine lv_iload hx hb dX3_goOut_127 (lv_at hl 0 rfl) ?_
        have hPc := hP.sub (ws' := [(mm, .inr (3, [.int th, .int (nI d), .int (nI r), .int ld, .int pl, .ref ao, .ref al, .int li, .int tl, .int mo, .ref aw, .ref aq, .int (nI (vis (safS fo fl pl tons) (S.1 ct + 1) ((ct % 8 + 7) % 8) (ct / 8) (vis (safS fo fl pl tons) (S.1 ct + 1) ((ct % 8 + 1) % 8) (ct / 8) (S))).2.2)])), (ao, .inl (cI, 4, .inl fo)), (al, .inl (cI, 31, .inl fl)), (aw, .inl (cI, 248, .inl ga2)), (aq, .inl (cI, 248, .inl gq2))]) [0, 1, 2, 3, 4] rfl
        have hDc : va_D (fun q : Nat => L0 ≤ q) [(mm, .inr (3, [.int th, .int (nI d), .int (nI r), .int ld, .int pl, .ref ao, .ref al, .int li, .int tl, .int mo, .ref aw, .ref aq, .int (nI (vis (safS fo fl pl tons) (S.1 ct + 1) ((ct % 8 + 7) % 8) (ct / 8) (vis (safS fo fl pl tons) (S.1 ct + 1) ((ct % 8 + 1) % 8) (ct / 8) (S))).2.2)])), (ao, .inl (cI, 4, .inl fo)), (al, .inl (cI, 31, .inl fl)), (aw, .inl (cI, 248, .inl ga2)), (aq, .inl (cI, 248, .inl gq2))] := (hD.sub (ws' := [(mm, .inr (3, [.int th, .int (nI d), .int (nI r), .int ld, .int pl, .ref ao, .ref al, .int li, .int tl, .int mo, .ref aw, .ref aq, .int (nI (vis (safS fo fl pl tons) (S.1 ct + 1) ((ct % 8 + 7) % 8) (ct / 8) (vis (safS fo fl pl tons) (S.1 ct + 1) ((ct % 8 + 1) % 8) (ct / 8) (S))).2.2)])), (ao, .inl (cI, 4, .inl fo)), (al, .inl (cI, 31, .inl fl)), (aw, .inl (cI, 248, .inl ga2)), (aq, .inl (cI, 248, .inl gq2))]) [0, 1, 2, 3, 4] (by decide) rfl).weaken (fun _ z9 _ h9 => hAL _ h9)
        have hKc := hK.sub (tys' := [(cI, .int)]) [0] rfl
        refine c_callB (va_runV (As := [.int tons, .int (nI (ct % 8)), .int (nI (ct / 8 + 1)), .int ((S.1 ct) + 1)]) (rest := []) ⟨hx, hb, hml, hown, hts⟩ (q_comeTo l D L0 cI mm ao al aw aq d r th ld pl li tl mo fo fl ga2 gq2 tons (S.1 ct + 1) (vis (safS fo fl pl tons) (S.1 ct + 1) ((ct % 8 + 7) % 8) (ct / 8) (vis (safS fo fl pl tons) (S.1 ct + 1) ((ct % 8 + 1) % 8) (ct / 8) (S))) (ct % 8) (ct / 8 + 1) (k + 1) (hdc) (by omega) hI2 hC2 hk3 (by omega)) (cwV 4 hts gX3_goOut_X3_comeTo rfl rfl rfl (by decide +kernel) ⟨Nat.le_of_ble_eq_true rfl, Nat.le_of_ble_eq_true rfl⟩) ⟨cP_blind, va_recv hKc hPc (ci := 3) (q0 := 0) rfl rfl, cP_of hPc hKc hDc (kE_at hE0 hAL hS)⟩ rfl rfl hl.1 rfl (lv_room (Nat.le_of_ble_eq_true rfl)) dX3_goOut_129 ⟨Nat.le_of_ble_eq_true rfl, Nat.le_of_ble_eq_true rfl⟩) hS (fun z9 _ ⟨k9, e9, h9⟩ => (hD.sub (ws' := [(mm, .inr (3, [.int th, .int (nI d), .int (nI r), .int ld, .int pl, .ref ao, .ref al, .int li, .int tl, .int mo, .ref aw, .ref aq, .int (nI (vis (safS fo fl pl tons) (S.1 ct + 1) ((ct % 8 + 7) % 8) (ct / 8) (vis (safS fo fl pl tons) (S.1 ct + 1) ((ct % 8 + 1) % 8) (ct / 8) (S))).2.2)])), (ao, .inl (cI, 4, .inl fo)), (al, .inl (cI, 31, .inl fl)), (aw, .inl (cI, 248, .inl ga2)), (aq, .inl (cI, 248, .inl gq2))]) [0, 1, 2, 3, 4] (by decide) rfl).2 k9 (z9, e9) h9) (fun z9 ⟨k9, e9, h9⟩ => (hD.sub (ws' := [(mm, .inr (3, [.int th, .int (nI d), .int (nI r), .int ld, .int pl, .ref ao, .ref al, .int li, .int tl, .int mo, .ref aw, .ref aq, .int (nI (vis (safS fo fl pl tons) (S.1 ct + 1) ((ct % 8 + 7) % 8) (ct / 8) (vis (safS fo fl pl tons) (S.1 ct + 1) ((ct % 8 + 1) % 8) (ct / 8) (S))).2.2)])), (ao, .inl (cI, 4, .inl fo)), (al, .inl (cI, 31, .inl fl)), (aw, .inl (cI, 248, .inl ga2)), (aq, .inl (cI, 248, .inl gq2))]) [0, 1, 2, 3, 4] (by decide) rfl).2 k9 (z9, e9) h9) (fun H1 locs hB hz1 hk1 hS => ?_)
        obtain ⟨ga3, gq3, hC3, hB⟩ := hB
        obtain ⟨hP, hD⟩ := c_join (ws' := [(mm, .inr (3, [.int th, .int (nI d), .int (nI r), .int ld, .int pl, .ref ao, .ref al, .int li, .int tl, .int mo, .ref aw, .ref aq, .int (nI (vis (safS fo fl pl tons) (S.1 ct + 1) (ct % 8) (ct / 8 + 1) (vis (safS fo fl pl tons) (S.1 ct + 1) ((ct % 8 + 7) % 8) (ct / 8) (vis (safS fo fl pl tons) (S.1 ct + 1) ((ct % 8 + 1) % 8) (ct / 8) (S)))).2.2)])), (ao, .inl (cI, 4, .inl fo)), (al, .inl (cI, 31, .inl fl)), (aw, .inl (cI, 248, .inl ga3)), (aq, .inl (cI, 248, .inl gq3))]) (wr := []) (w1 := [(mm, .inr (3, [.int th, .int (nI d), .int (nI r), .int ld, .int pl, .ref ao, .ref al, .int li, .int tl, .int mo, .ref aw, .ref aq, .int (nI (vis (safS fo fl pl tons) (S.1 ct + 1) (ct % 8) (ct / 8 + 1) (vis (safS fo fl pl tons) (S.1 ct + 1) ((ct % 8 + 7) % 8) (ct / 8) (vis (safS fo fl pl tons) (S.1 ct + 1) ((ct % 8 + 1) % 8) (ct / 8) (S)))).2.2)])), (ao, .inl (cI, 4, .inl fo)), (al, .inl (cI, 31, .inl fl)), (aw, .inl (cI, 248, .inl ga3)), (aq, .inl (cI, 248, .inl gq3))]) hP hD [0, 1, 2, 3, 4] [] [0, 1, 2, 3, 4] rfl rfl (by decide) (by decide) hk1 hB rfl rfl rfl (by decide)
        generalize H1 = H at hP hS ⊢
        show W _ _ _ _ _ _ _ _ _ _ _ _ _ _ _ (F0 m 132 ls [])
        have hI3 : bInv (vis (safS fo fl pl tons) (S.1 ct + 1) (ct % 8) (ct / 8 + 1) (vis (safS fo fl pl tons) (S.1 ct + 1) ((ct % 8 + 7) % 8) (ct / 8) (vis (safS fo fl pl tons) (S.1 ct + 1) ((ct % 8 + 1) % 8) (ct / 8) (S)))) := vis_invF hk3 hI2 (hdc) (by omega)
        have hn3 := (vis_n (sf := safS fo fl pl tons) (far := (S.1 ct + 1)) (d := (ct % 8)) (r := (ct / 8 + 1)) (S := vis (safS fo fl pl tons) (S.1 ct + 1) ((ct % 8 + 7) % 8) (ct / 8) (vis (safS fo fl pl tons) (S.1 ct + 1) ((ct % 8 + 1) % 8) (ct / 8) (S)))).1
        refine lv_aload_n hx hb dX3_goOut_132 rfl (lv_at hl 4 rfl) ?_
        refine lv_iload_n hx hb dX3_goOut_133 rfl (lv_at hl 5 rfl) ?_
        refine lv_iload_n hx hb dX3_goOut_134 rfl (lv_at hl 2 rfl) ?_
        refine lv_iload hx hb dX3_goOut_135 (lv_at hl 1 rfl) ?_
        refine lv_iconst (v := 1) hx hb dX3_goOut_137 (by decide) ?_
        refine lv_isub hx hb dX3_goOut_138 ?_
        refine c_top (show ((nI (ct / 8)) - 1) = nI (ct / 8 - 1) from show nI (ct / 8) - 1 = nI (ct / 8 - 1) from pk_sub (b := 1) (by omega)) ?_
        refine lv_iload hx hb dX3_goOut_139 (lv_at hl 0 rfl) ?_
        have hPc := hP.sub (ws' := [(mm, .inr (3, [.int th, .int (nI d), .int (nI r), .int ld, .int pl, .ref ao, .ref al, .int li, .int tl, .int mo, .ref aw, .ref aq, .int (nI (vis (safS fo fl pl tons) (S.1 ct + 1) (ct % 8) (ct / 8 + 1) (vis (safS fo fl pl tons) (S.1 ct + 1) ((ct % 8 + 7) % 8) (ct / 8) (vis (safS fo fl pl tons) (S.1 ct + 1) ((ct % 8 + 1) % 8) (ct / 8) (S)))).2.2)])), (ao, .inl (cI, 4, .inl fo)), (al, .inl (cI, 31, .inl fl)), (aw, .inl (cI, 248, .inl ga3)), (aq, .inl (cI, 248, .inl gq3))]) [0, 1, 2, 3, 4] rfl
        have hDc : va_D (fun q : Nat => L0 ≤ q) [(mm, .inr (3, [.int th, .int (nI d), .int (nI r), .int ld, .int pl, .ref ao, .ref al, .int li, .int tl, .int mo, .ref aw, .ref aq, .int (nI (vis (safS fo fl pl tons) (S.1 ct + 1) (ct % 8) (ct / 8 + 1) (vis (safS fo fl pl tons) (S.1 ct + 1) ((ct % 8 + 7) % 8) (ct / 8) (vis (safS fo fl pl tons) (S.1 ct + 1) ((ct % 8 + 1) % 8) (ct / 8) (S)))).2.2)])), (ao, .inl (cI, 4, .inl fo)), (al, .inl (cI, 31, .inl fl)), (aw, .inl (cI, 248, .inl ga3)), (aq, .inl (cI, 248, .inl gq3))] := (hD.sub (ws' := [(mm, .inr (3, [.int th, .int (nI d), .int (nI r), .int ld, .int pl, .ref ao, .ref al, .int li, .int tl, .int mo, .ref aw, .ref aq, .int (nI (vis (safS fo fl pl tons) (S.1 ct + 1) (ct % 8) (ct / 8 + 1) (vis (safS fo fl pl tons) (S.1 ct + 1) ((ct % 8 + 7) % 8) (ct / 8) (vis (safS fo fl pl tons) (S.1 ct + 1) ((ct % 8 + 1) % 8) (ct / 8) (S)))).2.2)])), (ao, .inl (cI, 4, .inl fo)), (al, .inl (cI, 31, .inl fl)), (aw, .inl (cI, 248, .inl ga3)), (aq, .inl (cI, 248, .inl gq3))]) [0, 1, 2, 3, 4] (by decide) rfl).weaken (fun _ z9 _ h9 => hAL _ h9)
        have hKc := hK.sub (tys' := [(cI, .int)]) [0] rfl
        refine c_callB (va_runV (As := [.int tons, .int (nI (ct % 8)), .int (nI (ct / 8 - 1)), .int ((S.1 ct) + 1)]) (rest := []) ⟨hx, hb, hml, hown, hts⟩ (q_comeTo l D L0 cI mm ao al aw aq d r th ld pl li tl mo fo fl ga3 gq3 tons (S.1 ct + 1) (vis (safS fo fl pl tons) (S.1 ct + 1) (ct % 8) (ct / 8 + 1) (vis (safS fo fl pl tons) (S.1 ct + 1) ((ct % 8 + 7) % 8) (ct / 8) (vis (safS fo fl pl tons) (S.1 ct + 1) ((ct % 8 + 1) % 8) (ct / 8) (S)))) (ct % 8) (ct / 8 - 1) (k + 1) (hdc) (by omega) hI3 hC3 hk3 (by omega)) (cwV 4 hts gX3_goOut_X3_comeTo rfl rfl rfl (by decide +kernel) ⟨Nat.le_of_ble_eq_true rfl, Nat.le_of_ble_eq_true rfl⟩) ⟨cP_blind, va_recv hKc hPc (ci := 3) (q0 := 0) rfl rfl, cP_of hPc hKc hDc (kE_at hE0 hAL hS)⟩ rfl rfl hl.1 rfl (lv_room (Nat.le_of_ble_eq_true rfl)) dX3_goOut_141 ⟨Nat.le_of_ble_eq_true rfl, Nat.le_of_ble_eq_true rfl⟩) hS (fun z9 _ ⟨k9, e9, h9⟩ => (hD.sub (ws' := [(mm, .inr (3, [.int th, .int (nI d), .int (nI r), .int ld, .int pl, .ref ao, .ref al, .int li, .int tl, .int mo, .ref aw, .ref aq, .int (nI (vis (safS fo fl pl tons) (S.1 ct + 1) (ct % 8) (ct / 8 + 1) (vis (safS fo fl pl tons) (S.1 ct + 1) ((ct % 8 + 7) % 8) (ct / 8) (vis (safS fo fl pl tons) (S.1 ct + 1) ((ct % 8 + 1) % 8) (ct / 8) (S)))).2.2)])), (ao, .inl (cI, 4, .inl fo)), (al, .inl (cI, 31, .inl fl)), (aw, .inl (cI, 248, .inl ga3)), (aq, .inl (cI, 248, .inl gq3))]) [0, 1, 2, 3, 4] (by decide) rfl).2 k9 (z9, e9) h9) (fun z9 ⟨k9, e9, h9⟩ => (hD.sub (ws' := [(mm, .inr (3, [.int th, .int (nI d), .int (nI r), .int ld, .int pl, .ref ao, .ref al, .int li, .int tl, .int mo, .ref aw, .ref aq, .int (nI (vis (safS fo fl pl tons) (S.1 ct + 1) (ct % 8) (ct / 8 + 1) (vis (safS fo fl pl tons) (S.1 ct + 1) ((ct % 8 + 7) % 8) (ct / 8) (vis (safS fo fl pl tons) (S.1 ct + 1) ((ct % 8 + 1) % 8) (ct / 8) (S)))).2.2)])), (ao, .inl (cI, 4, .inl fo)), (al, .inl (cI, 31, .inl fl)), (aw, .inl (cI, 248, .inl ga3)), (aq, .inl (cI, 248, .inl gq3))]) [0, 1, 2, 3, 4] (by decide) rfl).2 k9 (z9, e9) h9) (fun H1 locs hB hz1 hk1 hS => ?_)
        obtain ⟨ga4, gq4, hC4, hB⟩ := hB
        obtain ⟨hP, hD⟩ := c_join (ws' := [(mm, .inr (3, [.int th, .int (nI d), .int (nI r), .int ld, .int pl, .ref ao, .ref al, .int li, .int tl, .int mo, .ref aw, .ref aq, .int (nI (vis (safS fo fl pl tons) (S.1 ct + 1) (ct % 8) (ct / 8 - 1) (vis (safS fo fl pl tons) (S.1 ct + 1) (ct % 8) (ct / 8 + 1) (vis (safS fo fl pl tons) (S.1 ct + 1) ((ct % 8 + 7) % 8) (ct / 8) (vis (safS fo fl pl tons) (S.1 ct + 1) ((ct % 8 + 1) % 8) (ct / 8) (S))))).2.2)])), (ao, .inl (cI, 4, .inl fo)), (al, .inl (cI, 31, .inl fl)), (aw, .inl (cI, 248, .inl ga4)), (aq, .inl (cI, 248, .inl gq4))]) (wr := []) (w1 := [(mm, .inr (3, [.int th, .int (nI d), .int (nI r), .int ld, .int pl, .ref ao, .ref al, .int li, .int tl, .int mo, .ref aw, .ref aq, .int (nI (vis (safS fo fl pl tons) (S.1 ct + 1) (ct % 8) (ct / 8 - 1) (vis (safS fo fl pl tons) (S.1 ct + 1) (ct % 8) (ct / 8 + 1) (vis (safS fo fl pl tons) (S.1 ct + 1) ((ct % 8 + 7) % 8) (ct / 8) (vis (safS fo fl pl tons) (S.1 ct + 1) ((ct % 8 + 1) % 8) (ct / 8) (S))))).2.2)])), (ao, .inl (cI, 4, .inl fo)), (al, .inl (cI, 31, .inl fl)), (aw, .inl (cI, 248, .inl ga4)), (aq, .inl (cI, 248, .inl gq4))]) hP hD [0, 1, 2, 3, 4] [] [0, 1, 2, 3, 4] rfl rfl (by decide) (by decide) hk1 hB rfl rfl rfl (by decide)
        generalize H1 = H at hP hS ⊢
        show W _ _ _ _ _ _ _ _ _ _ _ _ _ _ _ (F0 m 144 ls [])
        have e4 : vis4 (safS fo fl pl tons) (S.2.1 i) S = vis (safS fo fl pl tons) (S.1 ct + 1) (ct % 8) (ct / 8 - 1) (vis (safS fo fl pl tons) (S.1 ct + 1) (ct % 8) (ct / 8 + 1) (vis (safS fo fl pl tons) (S.1 ct + 1) ((ct % 8 + 7) % 8) (ct / 8) (vis (safS fo fl pl tons) (S.1 ct + 1) ((ct % 8 + 1) % 8) (ct / 8) (S)))) := by rw [hct]; rfl
        obtain ⟨hI5, hn5⟩ := vis4_inv (sf := safS fo fl pl tons) hI hi
        rw [← e4] at hC4 hP hD
        have hP : va_P D vwCl [(mm, .inr (3, [.int th, .int (nI d), .int (nI r), .int ld, .int pl, .ref ao, .ref al, .int li, .int tl, .int mo, .ref aw, .ref aq, .int (nI (vis4 (safS fo fl pl tons) (S.2.1 i) S).2.2)])), (ao, .inl (cI, 4, .inl fo)), (al, .inl (cI, 31, .inl fl)), (aw, .inl (cI, 248, .inl ga4)), (aq, .inl (cI, 248, .inl gq4))] H := hP
        have hD : va_D A [(mm, .inr (3, [.int th, .int (nI d), .int (nI r), .int ld, .int pl, .ref ao, .ref al, .int li, .int tl, .int mo, .ref aw, .ref aq, .int (nI (vis4 (safS fo fl pl tons) (S.2.1 i) S).2.2)])), (ao, .inl (cI, 4, .inl fo)), (al, .inl (cI, 31, .inl fl)), (aw, .inl (cI, 248, .inl ga4)), (aq, .inl (cI, 248, .inl gq4))] := hD
        refine lv_iinc (v := (nI i) + 1) (lv' := [(2, .int ((nI i) + 1)), (5, .int ((S.1 ct) + 1)), (4, .int (nI (ct / 8))), (3, .int (nI (ct % 8))), (0, .ref mm), (1, .int tons)]) hx hb dX3_goOut_144 hl (k := 3) rfl rfl (by decide) rfl (fun ls hl => ?_)
        refine lv_goto (tgt := 43) hx hb dX3_goOut_147 (by decide) ?_
        have hl : lv_has ls 6 [(2, .int (nI (i + 1))), (5, .int ((S.1 ct) + 1)), (4, .int (nI (ct / 8))), (3, .int (nI (ct % 8))), (0, .ref mm), (1, .int tons)] := (show (nI i) + 1 = nI (i + 1) from nI_1 i) ▸ hl
        exact ih (i + 1) (vis4 (safS fo fl pl tons) (S.2.1 i) S) _ _ _ _ _ (by omega) hI5 (by omega) hC4 (bfs_go hi ▸ hG) (lv_sub hl [0, 4, 5] rfl) hP hD hS
  have loop1 : ∀ (n : Nat) (i : Nat) (ga : Nat → Int32) (H : Heap) (locs : List Loc) (ls : Array Slot), i + n = 248 → (∀ j, j < i → ga j = -1) → lv_has ls 6 [(2, .int (nI i)), (0, .ref mm), (1, .int tons)] → va_P D vwCl [(mm, .inr (3, [.int th, .int (nI d), .int (nI r), .int ld, .int pl, .ref ao, .ref al, .int li, .int tl, .int mo, .ref aw, .ref aq, .int mn])), (ao, .inl (cI, 4, .inl fo)), (al, .inl (cI, 31, .inl fl)), (aw, .inl (cI, 248, .inl ga)), (aq, .inl (cI, 248, .inl fq))] H → va_D A [(mm, .inr (3, [.int th, .int (nI d), .int (nI r), .int ld, .int pl, .ref ao, .ref al, .int li, .int tl, .int mo, .ref aw, .ref aq, .int mn])), (ao, .inl (cI, 4, .inl fo)), (al, .inl (cI, 31, .inl fl)), (aw, .inl (cI, 248, .inl ga)), (aq, .inl (cI, 248, .inl fq))] → va_S A s.heap H locs → W p l e (headSpec wsX3_goOut ({ frames := 4, cells := 0, slots := 0, locals := 105 })).room s m ([.ref mm, .int tons]).toArray below meth c H locs 0 0 (MQ below (cB none (fun H => ∃ fa9 fq9 : Nat → Int32, bM ((goS (safS fo fl pl tons) d r)) fa9 fq9 ∧ va_P D vwCl [(mm, .inr (3, [.int th, .int (nI d), .int (nI r), .int ld, .int pl, .ref ao, .ref al, .int li, .int tl, .int mo, .ref aw, .ref aq, .int (nI ((goS (safS fo fl pl tons) d r)).2.2)])), (ao, .inl (cI, 4, .inl fo)), (al, .inl (cI, 31, .inl fl)), (aw, .inl (cI, 248, .inl fa9)), (aq, .inl (cI, 248, .inl fq9))] H) A) ([.ref mm, .int tons]).toArray s 0 0 A) (F0 m 2 ls []) := by
    intro n
    induction n with
    | zero =>
      intro i ga H locs ls hn hg hl hP hD hS
      have hi : i = 248 := by omega
      rw [hi] at hl
      refine lv_iload_n hx hb dX3_goOut_2 rfl (lv_at hl 0 rfl) ?_
      refine lv_sipush (v := 248) hx hb dX3_goOut_3 (by decide) ?_
      refine lv_icmp_ge (tgt := 22) hx hb dX3_goOut_6 (by decide) (fun _ => ?_) (fun c_8 => absurd (by decide) c_8)
      have hC0 : bM ((fun _ => -1, fun _ => 0, 0) : bS) ga fq := ⟨fun c2 h2 => hg c2 (by omega), fun j hj => absurd hj (Nat.not_lt_zero j)⟩
      refine lv_aload_n hx hb dX3_goOut_22 rfl (lv_at hl 1 rfl) ?_
      refine lv_iconst (v := 0) hx hb dX3_goOut_23 (by decide) ?_
      refine va_put (D := D) (ci := 3) (v := .int 0) (ty := .int) (C := RX3) (T := TX3) (N := 13) hx hb hts hiX3 tyX3 tyX3_ok nmX3 hown hK hP hD hS 0 rfl rfl 12 (by decide) (hts (.fieldLink RX3 116 "CraneReachModel" "many" "I") (by decide +kernel)) (fun _ h9 => h9) rfl (by decide +kernel) rfl rfl (Nat.le_of_ble_eq_true rfl) dX3_goOut_24 (fun H locs hP hD hS => ?_)
      have hP : va_P D vwCl [(mm, .inr (3, [.int th, .int (nI d), .int (nI r), .int ld, .int pl, .ref ao, .ref al, .int li, .int tl, .int mo, .ref aw, .ref aq, .int 0])), (ao, .inl (cI, 4, .inl fo)), (al, .inl (cI, 31, .inl fl)), (aw, .inl (cI, 248, .inl ga)), (aq, .inl (cI, 248, .inl fq))] H := hP
      have hD : va_D A [(mm, .inr (3, [.int th, .int (nI d), .int (nI r), .int ld, .int pl, .ref ao, .ref al, .int li, .int tl, .int mo, .ref aw, .ref aq, .int 0])), (ao, .inl (cI, 4, .inl fo)), (al, .inl (cI, 31, .inl fl)), (aw, .inl (cI, 248, .inl ga)), (aq, .inl (cI, 248, .inl fq))] := hD
      refine lv_aload_n hx hb dX3_goOut_27 rfl (lv_at hl 1 rfl) ?_
      refine lv_iload_n hx hb dX3_goOut_28 rfl (lv_at hl 2 rfl) ?_
      refine lv_aload_n hx hb dX3_goOut_29 rfl (lv_at hl 1 rfl) ?_
      refine va_get (D := D) (ci := 3) (v := .int (nI d)) (C := RX3) (T := TX3) (N := 13) hx hb hts hiX3 hown hK hP 0 rfl rfl 1 (by decide) (hts (.fieldLink RX3 56 "CraneReachModel" "direction" "I") (by decide +kernel)) (fun _ h9 => h9) rfl dX3_goOut_30 ?_
      refine lv_aload_n hx hb dX3_goOut_33 rfl (lv_at hl 1 rfl) ?_
      refine va_get (D := D) (ci := 3) (v := .int (nI r)) (C := RX3) (T := TX3) (N := 13) hx hb hts hiX3 hown hK hP 0 rfl rfl 2 (by decide) (hts (.fieldLink RX3 9 "CraneReachModel" "reach" "I") (by decide +kernel)) (fun _ h9 => h9) rfl dX3_goOut_34 ?_
      refine lv_iconst (v := 0) hx hb dX3_goOut_37 (by decide) ?_
      have hP : va_P D vwCl [(mm, .inr (3, [.int th, .int (nI d), .int (nI r), .int ld, .int pl, .ref ao, .ref al, .int li, .int tl, .int mo, .ref aw, .ref aq, .int (nI (((fun _ => -1, fun _ => 0, 0) : bS)).2.2)])), (ao, .inl (cI, 4, .inl fo)), (al, .inl (cI, 31, .inl fl)), (aw, .inl (cI, 248, .inl ga)), (aq, .inl (cI, 248, .inl fq))] H := hP
      have hD : va_D A [(mm, .inr (3, [.int th, .int (nI d), .int (nI r), .int ld, .int pl, .ref ao, .ref al, .int li, .int tl, .int mo, .ref aw, .ref aq, .int (nI (((fun _ => -1, fun _ => 0, 0) : bS)).2.2)])), (ao, .inl (cI, 4, .inl fo)), (al, .inl (cI, 31, .inl fl)), (aw, .inl (cI, 248, .inl ga)), (aq, .inl (cI, 248, .inl fq))] := hD
      have hPc := hP.sub (ws' := [(mm, .inr (3, [.int th, .int (nI d), .int (nI r), .int ld, .int pl, .ref ao, .ref al, .int li, .int tl, .int mo, .ref aw, .ref aq, .int (nI (((fun _ => -1, fun _ => 0, 0) : bS)).2.2)])), (ao, .inl (cI, 4, .inl fo)), (al, .inl (cI, 31, .inl fl)), (aw, .inl (cI, 248, .inl ga)), (aq, .inl (cI, 248, .inl fq))]) [0, 1, 2, 3, 4] rfl
      have hDc : va_D (fun q : Nat => L0 ≤ q) [(mm, .inr (3, [.int th, .int (nI d), .int (nI r), .int ld, .int pl, .ref ao, .ref al, .int li, .int tl, .int mo, .ref aw, .ref aq, .int (nI (((fun _ => -1, fun _ => 0, 0) : bS)).2.2)])), (ao, .inl (cI, 4, .inl fo)), (al, .inl (cI, 31, .inl fl)), (aw, .inl (cI, 248, .inl ga)), (aq, .inl (cI, 248, .inl fq))] := (hD.sub (ws' := [(mm, .inr (3, [.int th, .int (nI d), .int (nI r), .int ld, .int pl, .ref ao, .ref al, .int li, .int tl, .int mo, .ref aw, .ref aq, .int (nI (((fun _ => -1, fun _ => 0, 0) : bS)).2.2)])), (ao, .inl (cI, 4, .inl fo)), (al, .inl (cI, 31, .inl fl)), (aw, .inl (cI, 248, .inl ga)), (aq, .inl (cI, 248, .inl fq))]) [0, 1, 2, 3, 4] (by decide) rfl).weaken (fun _ z9 _ h9 => hAL _ h9)
      have hKc := hK.sub (tys' := [(cI, .int)]) [0] rfl
      refine c_callB (va_runV (As := [.int tons, .int (nI d), .int (nI r), .int 0]) (rest := []) ⟨hx, hb, hml, hown, hts⟩ (q_comeTo l D L0 cI mm ao al aw aq d r th ld pl li tl mo fo fl ga fq tons 0 ((fun _ => -1, fun _ => 0, 0) : bS) d r 0 hd (by omega) b0_inv hC0 rfl (by omega)) (cwV 4 hts gX3_goOut_X3_comeTo rfl rfl rfl (by decide +kernel) ⟨Nat.le_of_ble_eq_true rfl, Nat.le_of_ble_eq_true rfl⟩) ⟨cP_blind, va_recv hKc hPc (ci := 3) (q0 := 0) rfl rfl, cP_of hPc hKc hDc (kE_at hE0 hAL hS)⟩ rfl rfl hl.1 rfl (lv_room (Nat.le_of_ble_eq_true rfl)) dX3_goOut_38 ⟨Nat.le_of_ble_eq_true rfl, Nat.le_of_ble_eq_true rfl⟩) hS (fun z9 _ ⟨k9, e9, h9⟩ => (hD.sub (ws' := [(mm, .inr (3, [.int th, .int (nI d), .int (nI r), .int ld, .int pl, .ref ao, .ref al, .int li, .int tl, .int mo, .ref aw, .ref aq, .int (nI (((fun _ => -1, fun _ => 0, 0) : bS)).2.2)])), (ao, .inl (cI, 4, .inl fo)), (al, .inl (cI, 31, .inl fl)), (aw, .inl (cI, 248, .inl ga)), (aq, .inl (cI, 248, .inl fq))]) [0, 1, 2, 3, 4] (by decide) rfl).2 k9 (z9, e9) h9) (fun z9 ⟨k9, e9, h9⟩ => (hD.sub (ws' := [(mm, .inr (3, [.int th, .int (nI d), .int (nI r), .int ld, .int pl, .ref ao, .ref al, .int li, .int tl, .int mo, .ref aw, .ref aq, .int (nI (((fun _ => -1, fun _ => 0, 0) : bS)).2.2)])), (ao, .inl (cI, 4, .inl fo)), (al, .inl (cI, 31, .inl fl)), (aw, .inl (cI, 248, .inl ga)), (aq, .inl (cI, 248, .inl fq))]) [0, 1, 2, 3, 4] (by decide) rfl).2 k9 (z9, e9) h9) (fun H1 locs hB hz1 hk1 hS => ?_)
      obtain ⟨ga1, gq1, hC1, hB⟩ := hB
      obtain ⟨hP, hD⟩ := c_join (ws' := [(mm, .inr (3, [.int th, .int (nI d), .int (nI r), .int ld, .int pl, .ref ao, .ref al, .int li, .int tl, .int mo, .ref aw, .ref aq, .int (nI (vis (safS fo fl pl tons) 0 d r ((fun _ => -1, fun _ => 0, 0) : bS)).2.2)])), (ao, .inl (cI, 4, .inl fo)), (al, .inl (cI, 31, .inl fl)), (aw, .inl (cI, 248, .inl ga1)), (aq, .inl (cI, 248, .inl gq1))]) (wr := []) (w1 := [(mm, .inr (3, [.int th, .int (nI d), .int (nI r), .int ld, .int pl, .ref ao, .ref al, .int li, .int tl, .int mo, .ref aw, .ref aq, .int (nI (vis (safS fo fl pl tons) 0 d r ((fun _ => -1, fun _ => 0, 0) : bS)).2.2)])), (ao, .inl (cI, 4, .inl fo)), (al, .inl (cI, 31, .inl fl)), (aw, .inl (cI, 248, .inl ga1)), (aq, .inl (cI, 248, .inl gq1))]) hP hD [0, 1, 2, 3, 4] [] [0, 1, 2, 3, 4] rfl rfl (by decide) (by decide) hk1 hB rfl rfl rfl (by decide)
      generalize H1 = H at hP hS ⊢
      show W _ _ _ _ _ _ _ _ _ _ _ _ _ _ _ (F0 m 41 ls [])
      refine lv_iconst (v := 0) hx hb dX3_goOut_41 (by decide) ?_
      refine lv_istore_n (lv' := [(2, .int 0), (0, .ref mm), (1, .int tons)]) hx hb dX3_goOut_42 rfl hl (by decide) rfl (fun ls hl => ?_)
      have hl : lv_has ls 6 [(2, .int (nI 0)), (0, .ref mm), (1, .int tons)] := (show 0 = nI 0 from rfl) ▸ hl
      exact loop2 225 0 (vis (safS fo fl pl tons) 0 d r ((fun _ => -1, fun _ => 0, 0) : bS)) _ _ _ _ _ (by omega) (vis_inv (k := 0) b0_inv hd (Nat.zero_le _)) (Nat.zero_le _) hC1 rfl (lv_sub hl [0, 1, 2] rfl) hP hD hS
    | succ n ih =>
      intro i ga H locs ls hn hg hl hP hD hS
      refine lv_iload_n hx hb dX3_goOut_2 rfl (lv_at hl 0 rfl) ?_
      refine lv_sipush (v := 248) hx hb dX3_goOut_3 (by decide) ?_
      refine lv_icmp_ge (tgt := 22) hx hb dX3_goOut_6 (by decide) (fun c_9 => absurd c_9 (nI_ge (b := 248) (by omega) (by decide))) (fun _ => ?_)
      refine lv_aload_n hx hb dX3_goOut_9 rfl (lv_at hl 1 rfl) ?_
      refine va_get (D := D) (ci := 3) (v := .ref aw) (C := RX3) (T := TX3) (N := 13) hx hb hts hiX3 hown hK hP 0 rfl rfl 10 (by decide) (hts (.fieldLink RX3 20 "CraneReachModel" "away" "[I") (by decide +kernel)) (fun _ h9 => h9) rfl dX3_goOut_10 ?_
      refine lv_iload_n hx hb dX3_goOut_13 rfl (lv_at hl 0 rfl) ?_
      refine lv_iconst (v := -1) hx hb dX3_goOut_14 (by decide) ?_
      refine va_iast hx hb hK hP hD hS 3 0 rfl rfl (vp_in_nI (by omega) (by decide)) dX3_goOut_15 (fun H locs hP hD hS => ?_)
      have hP : va_P D vwCl [(mm, .inr (3, [.int th, .int (nI d), .int (nI r), .int ld, .int pl, .ref ao, .ref al, .int li, .int tl, .int mo, .ref aw, .ref aq, .int mn])), (ao, .inl (cI, 4, .inl fo)), (al, .inl (cI, 31, .inl fl)), (aw, .inl (cI, 248, .inl (upd ga (nI i).toNatClampNeg (-1)))), (aq, .inl (cI, 248, .inl fq))] H := hP
      have hD : va_D A [(mm, .inr (3, [.int th, .int (nI d), .int (nI r), .int ld, .int pl, .ref ao, .ref al, .int li, .int tl, .int mo, .ref aw, .ref aq, .int mn])), (ao, .inl (cI, 4, .inl fo)), (al, .inl (cI, 31, .inl fl)), (aw, .inl (cI, 248, .inl (upd ga (nI i).toNatClampNeg (-1)))), (aq, .inl (cI, 248, .inl fq))] := hD
      rw [show (nI i).toNatClampNeg = i from nI_clamp (by omega)] at hP hD
      have hP : va_P D vwCl [(mm, .inr (3, [.int th, .int (nI d), .int (nI r), .int ld, .int pl, .ref ao, .ref al, .int li, .int tl, .int mo, .ref aw, .ref aq, .int mn])), (ao, .inl (cI, 4, .inl fo)), (al, .inl (cI, 31, .inl fl)), (aw, .inl (cI, 248, .inl (upd ga i (-1)))), (aq, .inl (cI, 248, .inl fq))] H := hP
      have hD : va_D A [(mm, .inr (3, [.int th, .int (nI d), .int (nI r), .int ld, .int pl, .ref ao, .ref al, .int li, .int tl, .int mo, .ref aw, .ref aq, .int mn])), (ao, .inl (cI, 4, .inl fo)), (al, .inl (cI, 31, .inl fl)), (aw, .inl (cI, 248, .inl (upd ga i (-1)))), (aq, .inl (cI, 248, .inl fq))] := hD
      refine lv_iinc (v := (nI i) + 1) (lv' := [(2, .int ((nI i) + 1)), (0, .ref mm), (1, .int tons)]) hx hb dX3_goOut_16 hl (k := 0) rfl rfl (by decide) rfl (fun ls hl => ?_)
      refine lv_goto (tgt := 2) hx hb dX3_goOut_19 (by decide) ?_
      have hl : lv_has ls 6 [(2, .int (nI (i + 1))), (0, .ref mm), (1, .int tons)] := (show (nI i) + 1 = nI (i + 1) from nI_1 i) ▸ hl
      exact ih (i + 1) _ _ _ _ (by omega) (fun j hj => by
            by_cases e : j = i
            · rw [e, pk_us]
            · rw [pk_un e]; exact hg j (by omega)) (lv_sub hl [0, 1, 2] rfl) hP hD hS
  refine lv_iconst (v := 0) hx hb dX3_goOut_0 (by decide) ?_
  refine lv_istore_n (lv' := [(2, .int 0), (0, .ref mm), (1, .int tons)]) hx hb dX3_goOut_1 rfl hl (by decide) rfl (fun ls hl => ?_)
  have hl : lv_has ls 6 [(2, .int (nI 0)), (0, .ref mm), (1, .int tons)] := (show 0 = nI 0 from rfl) ▸ hl
  exact loop1 248 0 _ _ _ _ (by omega) (fun j hj => absurd hj (Nat.not_lt_zero j)) (lv_sub hl [0, 1, 2] rfl) hP hD hS
set_option maxHeartbeats 4000000 in
set_option maxRecDepth 100000 in
/-- within(its) -/
theorem q_within (l : Launch) (D : va_G) (L0 : Nat) (cI : ClassId) (mm ao al aw aq d r : Nat) (th ld pl li tl mo mn : Int32) (fo fl : Nat → Int32) (fa fq : Nat → Int32) (tons : Int32) (hd : d < 8) (hr : 3 ≤ r ∧ r ≤ 30) : Met l yX3_within wsX3_within ({ frames := 5, cells := 0, slots := 0, locals := 130 }) (cP L0 D [(cI, .int)] [(mm, .inr (3, [.int th, .int (nI d), .int (nI r), .int ld, .int pl, .ref ao, .ref al, .int li, .int tl, .int mo, .ref aw, .ref aq, .int mn])), (ao, .inl (cI, 4, .inl fo)), (al, .inl (cI, 31, .inl fl)), (aw, .inl (cI, 248, .inl fa)), (aq, .inl (cI, 248, .inl fq))] [.ref mm, .int tons]) (cB (some (.int (nI (goS (safS fo fl pl tons) d r).2.2))) (fun H => ∃ fa9 fq9 : Nat → Int32, bM ((goS (safS fo fl pl tons) d r)) fa9 fq9 ∧ va_P D vwCl [(mm, .inr (3, [.int th, .int (nI d), .int (nI r), .int ld, .int pl, .ref ao, .ref al, .int li, .int tl, .int mo, .ref aw, .ref aq, .int (nI ((goS (safS fo fl pl tons) d r)).2.2)])), (ao, .inl (cI, 4, .inl fo)), (al, .inl (cI, 31, .inl fl)), (aw, .inl (cI, 248, .inl fa9)), (aq, .inl (cI, 248, .inl fq9))] H) (cA [(mm, .inr (3, [.int th, .int (nI d), .int (nI r), .int ld, .int pl, .ref ao, .ref al, .int li, .int tl, .int mo, .ref aw, .ref aq, .int mn])), (ao, .inl (cI, 4, .inl fo)), (al, .inl (cI, 31, .inl fl)), (aw, .inl (cI, 248, .inl fa)), (aq, .inl (cI, 248, .inl fq))])) 0 0 (cA [(mm, .inr (3, [.int th, .int (nI d), .int (nI r), .int ld, .int pl, .ref ao, .ref al, .int li, .int tl, .int mo, .ref aw, .ref aq, .int mn])), (ao, .inl (cI, 4, .inl fo)), (al, .inl (cI, 31, .inl fl)), (aw, .inl (cI, 248, .inl fa)), (aq, .inl (cI, 248, .inl fq))]) := by
  refine Met.ofW (cc := cX3_within) (maxL := 2) (ret := (some .int)) (by decide) rfl ?_
  intro p e s m args below meth c s₁ B hml hv
  obtain ⟨rfl, hP, hK, hD0, hE0⟩ := hv
  have hx := B.exec
  have hb := B.bytes
  have hRt := B.returns
  have hts := atoms_spec (ws := wsX3_within) B.pre
  have hown : s.vm.findClass RX3 = some m.cls := findClass_of_methodNamed B.named
  have hlocks := B.notSynchronized
  have hAL : ∀ z9 : Nat, cA [(mm, .inr (3, [.int th, .int (nI d), .int (nI r), .int ld, .int pl, .ref ao, .ref al, .int li, .int tl, .int mo, .ref aw, .ref aq, .int mn])), (ao, .inl (cI, 4, .inl fo)), (al, .inl (cI, 31, .inl fl)), (aw, .inl (cI, 248, .inl fa)), (aq, .inl (cI, 248, .inl fq))] z9 → L0 ≤ z9 := fun z9 ⟨k9, e9, h9⟩ => hD0.2 k9 (z9, e9) h9
  have hD : va_D (cA [(mm, .inr (3, [.int th, .int (nI d), .int (nI r), .int ld, .int pl, .ref ao, .ref al, .int li, .int tl, .int mo, .ref aw, .ref aq, .int mn])), (ao, .inl (cI, 4, .inl fo)), (al, .inl (cI, 31, .inl fl)), (aw, .inl (cI, 248, .inl fa)), (aq, .inl (cI, 248, .inl fq))]) [(mm, .inr (3, [.int th, .int (nI d), .int (nI r), .int ld, .int pl, .ref ao, .ref al, .int li, .int tl, .int mo, .ref aw, .ref aq, .int mn])), (ao, .inl (cI, 4, .inl fo)), (al, .inl (cI, 31, .inl fl)), (aw, .inl (cI, 248, .inl fa)), (aq, .inl (cI, 248, .inl fq))] := ⟨hD0.1, fun k9 z9 h9 => cA_of h9⟩
  generalize hAe : cA [(mm, .inr (3, [.int th, .int (nI d), .int (nI r), .int ld, .int pl, .ref ao, .ref al, .int li, .int tl, .int mo, .ref aw, .ref aq, .int mn])), (ao, .inl (cI, 4, .inl fo)), (al, .inl (cI, 31, .inl fl)), (aw, .inl (cI, 248, .inl fa)), (aq, .inl (cI, 248, .inl fq))] = A at hD hAL ⊢
  have hS : va_S A s.heap s.heap [] := va_S.rf
  have hiX3 : ∀ w ∈ u_ws RX3 TX3 13, w ∈ wsX3_within := by decide +kernel
  have hl := lv_entry ([.ref mm, .int tons]) (n := 2) (Nat.le_of_ble_eq_true rfl)
  rw [lg_entry_eq]
  generalize (lg_sl ([.ref mm, .int tons]) ++ List.replicate (2 - (lg_sl ([.ref mm, .int tons])).length) Slot.unset).toArray = ls at hl ⊢
  have hl : lv_has ls 2 [(0, .ref mm), (1, .int tons)] := hl
  refine lv_aload_n hx hb dX3_within_0 rfl (lv_at hl 0 rfl) ?_
  refine lv_iload_n hx hb dX3_within_1 rfl (lv_at hl 1 rfl) ?_
  have hPc := hP.sub (ws' := [(mm, .inr (3, [.int th, .int (nI d), .int (nI r), .int ld, .int pl, .ref ao, .ref al, .int li, .int tl, .int mo, .ref aw, .ref aq, .int mn])), (ao, .inl (cI, 4, .inl fo)), (al, .inl (cI, 31, .inl fl)), (aw, .inl (cI, 248, .inl fa)), (aq, .inl (cI, 248, .inl fq))]) [0, 1, 2, 3, 4] rfl
  have hDc : va_D (fun q : Nat => L0 ≤ q) [(mm, .inr (3, [.int th, .int (nI d), .int (nI r), .int ld, .int pl, .ref ao, .ref al, .int li, .int tl, .int mo, .ref aw, .ref aq, .int mn])), (ao, .inl (cI, 4, .inl fo)), (al, .inl (cI, 31, .inl fl)), (aw, .inl (cI, 248, .inl fa)), (aq, .inl (cI, 248, .inl fq))] := (hD.sub (ws' := [(mm, .inr (3, [.int th, .int (nI d), .int (nI r), .int ld, .int pl, .ref ao, .ref al, .int li, .int tl, .int mo, .ref aw, .ref aq, .int mn])), (ao, .inl (cI, 4, .inl fo)), (al, .inl (cI, 31, .inl fl)), (aw, .inl (cI, 248, .inl fa)), (aq, .inl (cI, 248, .inl fq))]) [0, 1, 2, 3, 4] (by decide) rfl).weaken (fun _ z9 _ h9 => hAL _ h9)
  have hKc := hK.sub (tys' := [(cI, .int)]) [0] rfl
  refine c_callB (va_runV (As := [.int tons]) (rest := []) ⟨hx, hb, hml, hown, hts⟩ (q_goOut l D L0 cI mm ao al aw aq d r th ld pl li tl mo mn fo fl fa fq tons hd hr) (cwV 1 hts gX3_within_X3_goOut rfl rfl rfl (by decide +kernel) ⟨Nat.le_of_ble_eq_true rfl, Nat.le_of_ble_eq_true rfl⟩) ⟨cP_blind, va_recv hKc hPc (ci := 3) (q0 := 0) rfl rfl, cP_of hPc hKc hDc (kE_at hE0 hAL hS)⟩ rfl rfl hl.1 rfl (lv_room (Nat.le_of_ble_eq_true rfl)) dX3_within_2 ⟨Nat.le_of_ble_eq_true rfl, Nat.le_of_ble_eq_true rfl⟩) hS (fun z9 _ ⟨k9, e9, h9⟩ => (hD.sub (ws' := [(mm, .inr (3, [.int th, .int (nI d), .int (nI r), .int ld, .int pl, .ref ao, .ref al, .int li, .int tl, .int mo, .ref aw, .ref aq, .int mn])), (ao, .inl (cI, 4, .inl fo)), (al, .inl (cI, 31, .inl fl)), (aw, .inl (cI, 248, .inl fa)), (aq, .inl (cI, 248, .inl fq))]) [0, 1, 2, 3, 4] (by decide) rfl).2 k9 (z9, e9) h9) (fun z9 ⟨k9, e9, h9⟩ => (hD.sub (ws' := [(mm, .inr (3, [.int th, .int (nI d), .int (nI r), .int ld, .int pl, .ref ao, .ref al, .int li, .int tl, .int mo, .ref aw, .ref aq, .int mn])), (ao, .inl (cI, 4, .inl fo)), (al, .inl (cI, 31, .inl fl)), (aw, .inl (cI, 248, .inl fa)), (aq, .inl (cI, 248, .inl fq))]) [0, 1, 2, 3, 4] (by decide) rfl).2 k9 (z9, e9) h9) (fun H1 locs hB hz1 hk1 hS => ?_)
  obtain ⟨fa9, fq9, hC, hB⟩ := hB
  obtain ⟨hP, hD⟩ := c_join (ws' := [(mm, .inr (3, [.int th, .int (nI d), .int (nI r), .int ld, .int pl, .ref ao, .ref al, .int li, .int tl, .int mo, .ref aw, .ref aq, .int (nI (goS (safS fo fl pl tons) d r).2.2)])), (ao, .inl (cI, 4, .inl fo)), (al, .inl (cI, 31, .inl fl)), (aw, .inl (cI, 248, .inl fa9)), (aq, .inl (cI, 248, .inl fq9))]) (wr := []) (w1 := [(mm, .inr (3, [.int th, .int (nI d), .int (nI r), .int ld, .int pl, .ref ao, .ref al, .int li, .int tl, .int mo, .ref aw, .ref aq, .int (nI (goS (safS fo fl pl tons) d r).2.2)])), (ao, .inl (cI, 4, .inl fo)), (al, .inl (cI, 31, .inl fl)), (aw, .inl (cI, 248, .inl fa9)), (aq, .inl (cI, 248, .inl fq9))]) hP hD [0, 1, 2, 3, 4] [] [0, 1, 2, 3, 4] rfl rfl (by decide) (by decide) hk1 hB rfl rfl rfl (by decide)
  generalize H1 = H at hP hS ⊢
  show W _ _ _ _ _ _ _ _ _ _ _ _ _ _ _ (F0 m 5 ls [])
  refine lv_aload_n hx hb dX3_within_5 rfl (lv_at hl 0 rfl) ?_
  refine va_get (D := D) (ci := 3) (v := .int (nI (goS (safS fo fl pl tons) d r).2.2)) (C := RX3) (T := TX3) (N := 13) hx hb hts hiX3 hown hK hP 0 rfl rfl 12 (by decide) (hts (.fieldLink RX3 116 "CraneReachModel" "many" "I") (by decide +kernel)) (fun _ h9 => h9) rfl dX3_within_6 ?_
  exact W.iret (v := (nI (goS (safS fo fl pl tons) d r).2.2)) hx hb hRt (fun t ht hW => ⟨⟨rfl, by rw [ht]; exact ⟨fa9, fq9, hC, hP⟩⟩, hS.F ht⟩) hS.2.2 dX3_within_9
set_option maxHeartbeats 4000000 in
set_option maxRecDepth 100000 in
/-- placesWithin -/
theorem q_placesWithin (l : Launch) (D : va_G) (L0 : Nat) (cI : ClassId) (mm ao al aw aq d r : Nat) (th ld pl li tl mo mn : Int32) (fo fl : Nat → Int32) (fa fq : Nat → Int32) (u : Int32) (hd : d < 8) (hr : 3 ≤ r ∧ r ≤ 30) : Met l yX3_placesWithin wsX3_placesWithin ({ frames := 6, cells := 0, slots := 0, locals := 151 }) (cP L0 D [(cI, .int)] [(mm, .inr (3, [.int th, .int (nI d), .int (nI r), .int ld, .int pl, .ref ao, .ref al, .int li, .int tl, .int mo, .ref aw, .ref aq, .int mn])), (ao, .inl (cI, 4, .inl fo)), (al, .inl (cI, 31, .inl fl)), (aw, .inl (cI, 248, .inl fa)), (aq, .inl (cI, 248, .inl fq))] [.ref mm, .int u]) (cB (some (.int (if k1 (inR u 0 60) = 0 then nI (goS (safS fo fl pl u) d r).2.2 else 0))) (fun H => ∃ (n9 : Int32) (a9 q9 : Nat → Int32), va_P D vwCl [(mm, .inr (3, [.int (k1 (inR u 0 60)), .int (nI d), .int (nI r), .int ld, .int pl, .ref ao, .ref al, .int li, .int tl, .int mo, .ref aw, .ref aq, .int n9])), (ao, .inl (cI, 4, .inl fo)), (al, .inl (cI, 31, .inl fl)), (aw, .inl (cI, 248, .inl a9)), (aq, .inl (cI, 248, .inl q9))] H) (cA [(mm, .inr (3, [.int th, .int (nI d), .int (nI r), .int ld, .int pl, .ref ao, .ref al, .int li, .int tl, .int mo, .ref aw, .ref aq, .int mn])), (ao, .inl (cI, 4, .inl fo)), (al, .inl (cI, 31, .inl fl)), (aw, .inl (cI, 248, .inl fa)), (aq, .inl (cI, 248, .inl fq))])) 0 0 (cA [(mm, .inr (3, [.int th, .int (nI d), .int (nI r), .int ld, .int pl, .ref ao, .ref al, .int li, .int tl, .int mo, .ref aw, .ref aq, .int mn])), (ao, .inl (cI, 4, .inl fo)), (al, .inl (cI, 31, .inl fl)), (aw, .inl (cI, 248, .inl fa)), (aq, .inl (cI, 248, .inl fq))]) := by
  refine Met.ofW (cc := cX3_placesWithin) (maxL := 2) (ret := (some .int)) (by decide) rfl ?_
  intro p e s m args below meth c s₁ B hml hv
  obtain ⟨rfl, hP, hK, hD0, hE0⟩ := hv
  have hx := B.exec
  have hb := B.bytes
  have hRt := B.returns
  have hts := atoms_spec (ws := wsX3_placesWithin) B.pre
  have hown : s.vm.findClass RX3 = some m.cls := findClass_of_methodNamed B.named
  have hlocks := B.notSynchronized
  have hAL : ∀ z9 : Nat, cA [(mm, .inr (3, [.int th, .int (nI d), .int (nI r), .int ld, .int pl, .ref ao, .ref al, .int li, .int tl, .int mo, .ref aw, .ref aq, .int mn])), (ao, .inl (cI, 4, .inl fo)), (al, .inl (cI, 31, .inl fl)), (aw, .inl (cI, 248, .inl fa)), (aq, .inl (cI, 248, .inl fq))] z9 → L0 ≤ z9 := fun z9 ⟨k9, e9, h9⟩ => hD0.2 k9 (z9, e9) h9
  have hD : va_D (cA [(mm, .inr (3, [.int th, .int (nI d), .int (nI r), .int ld, .int pl, .ref ao, .ref al, .int li, .int tl, .int mo, .ref aw, .ref aq, .int mn])), (ao, .inl (cI, 4, .inl fo)), (al, .inl (cI, 31, .inl fl)), (aw, .inl (cI, 248, .inl fa)), (aq, .inl (cI, 248, .inl fq))]) [(mm, .inr (3, [.int th, .int (nI d), .int (nI r), .int ld, .int pl, .ref ao, .ref al, .int li, .int tl, .int mo, .ref aw, .ref aq, .int mn])), (ao, .inl (cI, 4, .inl fo)), (al, .inl (cI, 31, .inl fl)), (aw, .inl (cI, 248, .inl fa)), (aq, .inl (cI, 248, .inl fq))] := ⟨hD0.1, fun k9 z9 h9 => cA_of h9⟩
  generalize hAe : cA [(mm, .inr (3, [.int th, .int (nI d), .int (nI r), .int ld, .int pl, .ref ao, .ref al, .int li, .int tl, .int mo, .ref aw, .ref aq, .int mn])), (ao, .inl (cI, 4, .inl fo)), (al, .inl (cI, 31, .inl fl)), (aw, .inl (cI, 248, .inl fa)), (aq, .inl (cI, 248, .inl fq))] = A at hD hAL ⊢
  have hS : va_S A s.heap s.heap [] := va_S.rf
  have hiX3 : ∀ w ∈ u_ws RX3 TX3 13, w ∈ wsX3_placesWithin := by decide +kernel
  have hl := lv_entry ([.ref mm, .int u]) (n := 2) (Nat.le_of_ble_eq_true rfl)
  rw [lg_entry_eq]
  generalize (lg_sl ([.ref mm, .int u]) ++ List.replicate (2 - (lg_sl ([.ref mm, .int u])).length) Slot.unset).toArray = ls at hl ⊢
  have hl : lv_has ls 2 [(0, .ref mm), (1, .int u)] := hl
  refine lv_aload_n hx hb dX3_placesWithin_0 rfl (lv_at hl 0 rfl) ?_
  refine lv_iconst (v := 0) hx hb dX3_placesWithin_1 (by decide) ?_
  refine va_put (D := D) (ci := 3) (v := .int 0) (ty := .int) (C := RX3) (T := TX3) (N := 13) hx hb hts hiX3 tyX3 tyX3_ok nmX3 hown hK hP hD hS 0 rfl rfl 0 (by decide) (hts (.fieldLink RX3 26 "CraneReachModel" "thrown" "I") (by decide +kernel)) (fun _ h9 => h9) rfl (by decide +kernel) rfl rfl (Nat.le_of_ble_eq_true rfl) dX3_placesWithin_2 (fun H locs hP hD hS => ?_)
  have hP : va_P D vwCl [(mm, .inr (3, [.int 0, .int (nI d), .int (nI r), .int ld, .int pl, .ref ao, .ref al, .int li, .int tl, .int mo, .ref aw, .ref aq, .int mn])), (ao, .inl (cI, 4, .inl fo)), (al, .inl (cI, 31, .inl fl)), (aw, .inl (cI, 248, .inl fa)), (aq, .inl (cI, 248, .inl fq))] H := hP
  have hD : va_D A [(mm, .inr (3, [.int 0, .int (nI d), .int (nI r), .int ld, .int pl, .ref ao, .ref al, .int li, .int tl, .int mo, .ref aw, .ref aq, .int mn])), (ao, .inl (cI, 4, .inl fo)), (al, .inl (cI, 31, .inl fl)), (aw, .inl (cI, 248, .inl fa)), (aq, .inl (cI, 248, .inl fq))] := hD
  refine lv_iload_n hx hb dX3_placesWithin_5 rfl (lv_at hl 1 rfl) ?_
  have hPc := hP.sub (ws' := []) [] rfl
  have hDc : va_D (fun q : Nat => L0 ≤ q) [] := (hD.sub (ws' := []) [] (by decide) rfl).weaken (fun _ z9 _ h9 => hAL _ h9)
  have hKc := hK.sub (tys' := []) [] rfl
  refine c_callR (va_runS (As := [.int u]) (rest := []) ⟨hx, hb, hml, hown, hts⟩ (q_isLoad l D L0 u) (va_cwS 1 hts gX3_placesWithin_X3_isLoad rfl rfl rfl (by decide +kernel) ⟨Nat.le_of_ble_eq_true rfl, Nat.le_of_ble_eq_true rfl⟩) ⟨cP_blind, cP_of hPc hKc hDc (kE_at hE0 hAL hS)⟩ rfl rfl hl.1 rfl (lv_room (Nat.le_of_ble_eq_true rfl)) dX3_placesWithin_6 ⟨Nat.le_of_ble_eq_true rfl, Nat.le_of_ble_eq_true rfl⟩) ?_
  show W _ _ _ _ _ _ _ _ _ _ _ _ _ _ _ (F0 m 9 ls [.int (bI (decide (0 ≤ u) && decide (u ≤ 60)))])
  obtain ⟨b_10, hbv_11⟩ : ∃ z9 : Bool, z9 = (decide (0 ≤ u) && decide (u ≤ 60)) := ⟨_, rfl⟩
  refine c_top (show (bI (decide (0 ≤ u) && decide (u ≤ 60))) = bI b_10 from by rw [hbv_11]) ?_
  refine lv_if_eq (tgt := 20) hx hb dX3_placesWithin_9 (by decide) (fun c_12 => ?_) (fun c_12 => ?_)
  · have hn : ¬ (inR u 0 60) := fun hp => absurd c_12 (by rw [hbv_11]; simp [hp.1, hp.2, bI])
    refine lv_aload_n hx hb dX3_placesWithin_20 rfl (lv_at hl 0 rfl) ?_
    refine lv_iconst (v := 1) hx hb dX3_placesWithin_21 (by decide) ?_
    have hPc := hP.sub (ws' := [(mm, .inr (3, [.int 0, .int (nI d), .int (nI r), .int ld, .int pl, .ref ao, .ref al, .int li, .int tl, .int mo, .ref aw, .ref aq, .int mn]))]) [0] rfl
    have hDc : va_D (fun q : Nat => L0 ≤ q) [(mm, .inr (3, [.int 0, .int (nI d), .int (nI r), .int ld, .int pl, .ref ao, .ref al, .int li, .int tl, .int mo, .ref aw, .ref aq, .int mn]))] := (hD.sub (ws' := [(mm, .inr (3, [.int 0, .int (nI d), .int (nI r), .int ld, .int pl, .ref ao, .ref al, .int li, .int tl, .int mo, .ref aw, .ref aq, .int mn]))]) [0] (by decide) rfl).weaken (fun _ z9 _ h9 => hAL _ h9)
    have hKc := hK.sub (tys' := []) [] rfl
    refine c_callB (va_runV (As := [.int 1]) (rest := []) ⟨hx, hb, hml, hown, hts⟩ (q_no l D L0 mm ao al aw aq d r 0 ld pl li tl mo mn 1) (cwV 1 hts gX3_placesWithin_X3_no rfl rfl rfl (by decide +kernel) ⟨Nat.le_of_ble_eq_true rfl, Nat.le_of_ble_eq_true rfl⟩) ⟨cP_blind, va_recv hKc hPc (ci := 3) (q0 := 0) rfl rfl, cP_of hPc hKc hDc (kE_at hE0 hAL hS)⟩ rfl rfl hl.1 rfl (lv_room (Nat.le_of_ble_eq_true rfl)) dX3_placesWithin_22 ⟨Nat.le_of_ble_eq_true rfl, Nat.le_of_ble_eq_true rfl⟩) hS (fun z9 _ ⟨k9, e9, h9⟩ => (hD.sub (ws' := [(mm, .inr (3, [.int 0, .int (nI d), .int (nI r), .int ld, .int pl, .ref ao, .ref al, .int li, .int tl, .int mo, .ref aw, .ref aq, .int mn]))]) [0] (by decide) rfl).2 k9 (z9, e9) h9) (fun z9 ⟨k9, e9, h9⟩ => (hD.sub (ws' := [(mm, .inr (3, [.int 0, .int (nI d), .int (nI r), .int ld, .int pl, .ref ao, .ref al, .int li, .int tl, .int mo, .ref aw, .ref aq, .int mn]))]) [0] (by decide) rfl).2 k9 (z9, e9) h9) (fun H1 locs hB hz1 hk1 hS => ?_)
    obtain ⟨hP, hD⟩ := c_join (ws' := [(mm, .inr (3, [.int 1, .int (nI d), .int (nI r), .int ld, .int pl, .ref ao, .ref al, .int li, .int tl, .int mo, .ref aw, .ref aq, .int mn])), (ao, .inl (cI, 4, .inl fo)), (al, .inl (cI, 31, .inl fl)), (aw, .inl (cI, 248, .inl fa)), (aq, .inl (cI, 248, .inl fq))]) (wr := [(ao, .inl (cI, 4, .inl fo)), (al, .inl (cI, 31, .inl fl)), (aw, .inl (cI, 248, .inl fa)), (aq, .inl (cI, 248, .inl fq))]) (w1 := [(mm, .inr (3, [.int 1, .int (nI d), .int (nI r), .int ld, .int pl, .ref ao, .ref al, .int li, .int tl, .int mo, .ref aw, .ref aq, .int mn]))]) hP hD [0] [1, 2, 3, 4] [4, 0, 1, 2, 3] rfl rfl (by decide) (by decide) hk1 hB rfl rfl rfl (by decide)
    generalize H1 = H at hP hS ⊢
    show W _ _ _ _ _ _ _ _ _ _ _ _ _ _ _ (F0 m 25 ls [.int 0])
    have hK1 : k1 (inR u 0 60) = 1 := k1_no hn
    have hKn : ¬ k1 (inR u 0 60) = 0 := by rw [hK1]; decide
    exact W.iret (v := 0) hx hb hRt (fun t ht hW => ⟨⟨by simp only [if_neg hKn], by rw [ht]; exact (by rw [hK1]; exact ⟨_, _, _, hP⟩)⟩, hS.F ht⟩) hS.2.2 dX3_placesWithin_25
  · have hp : inR u 0 60 := by cases b_10 with | true => simpa using hbv_11.symm | false => exact absurd rfl c_12
    refine lv_aload_n hx hb dX3_placesWithin_12 rfl (lv_at hl 0 rfl) ?_
    refine lv_iload_n hx hb dX3_placesWithin_13 rfl (lv_at hl 1 rfl) ?_
    have hPc := hP.sub (ws' := [(mm, .inr (3, [.int 0, .int (nI d), .int (nI r), .int ld, .int pl, .ref ao, .ref al, .int li, .int tl, .int mo, .ref aw, .ref aq, .int mn])), (ao, .inl (cI, 4, .inl fo)), (al, .inl (cI, 31, .inl fl)), (aw, .inl (cI, 248, .inl fa)), (aq, .inl (cI, 248, .inl fq))]) [0, 1, 2, 3, 4] rfl
    have hDc : va_D (fun q : Nat => L0 ≤ q) [(mm, .inr (3, [.int 0, .int (nI d), .int (nI r), .int ld, .int pl, .ref ao, .ref al, .int li, .int tl, .int mo, .ref aw, .ref aq, .int mn])), (ao, .inl (cI, 4, .inl fo)), (al, .inl (cI, 31, .inl fl)), (aw, .inl (cI, 248, .inl fa)), (aq, .inl (cI, 248, .inl fq))] := (hD.sub (ws' := [(mm, .inr (3, [.int 0, .int (nI d), .int (nI r), .int ld, .int pl, .ref ao, .ref al, .int li, .int tl, .int mo, .ref aw, .ref aq, .int mn])), (ao, .inl (cI, 4, .inl fo)), (al, .inl (cI, 31, .inl fl)), (aw, .inl (cI, 248, .inl fa)), (aq, .inl (cI, 248, .inl fq))]) [0, 1, 2, 3, 4] (by decide) rfl).weaken (fun _ z9 _ h9 => hAL _ h9)
    have hKc := hK.sub (tys' := [(cI, .int)]) [0] rfl
    refine c_callB (va_runV (As := [.int u]) (rest := []) ⟨hx, hb, hml, hown, hts⟩ (q_within l D L0 cI mm ao al aw aq d r 0 ld pl li tl mo mn fo fl fa fq u hd hr) (cwV 1 hts gX3_placesWithin_X3_within rfl rfl rfl (by decide +kernel) ⟨Nat.le_of_ble_eq_true rfl, Nat.le_of_ble_eq_true rfl⟩) ⟨cP_blind, va_recv hKc hPc (ci := 3) (q0 := 0) rfl rfl, cP_of hPc hKc hDc (kE_at hE0 hAL hS)⟩ rfl rfl hl.1 rfl (lv_room (Nat.le_of_ble_eq_true rfl)) dX3_placesWithin_14 ⟨Nat.le_of_ble_eq_true rfl, Nat.le_of_ble_eq_true rfl⟩) hS (fun z9 _ ⟨k9, e9, h9⟩ => (hD.sub (ws' := [(mm, .inr (3, [.int 0, .int (nI d), .int (nI r), .int ld, .int pl, .ref ao, .ref al, .int li, .int tl, .int mo, .ref aw, .ref aq, .int mn])), (ao, .inl (cI, 4, .inl fo)), (al, .inl (cI, 31, .inl fl)), (aw, .inl (cI, 248, .inl fa)), (aq, .inl (cI, 248, .inl fq))]) [0, 1, 2, 3, 4] (by decide) rfl).2 k9 (z9, e9) h9) (fun z9 ⟨k9, e9, h9⟩ => (hD.sub (ws' := [(mm, .inr (3, [.int 0, .int (nI d), .int (nI r), .int ld, .int pl, .ref ao, .ref al, .int li, .int tl, .int mo, .ref aw, .ref aq, .int mn])), (ao, .inl (cI, 4, .inl fo)), (al, .inl (cI, 31, .inl fl)), (aw, .inl (cI, 248, .inl fa)), (aq, .inl (cI, 248, .inl fq))]) [0, 1, 2, 3, 4] (by decide) rfl).2 k9 (z9, e9) h9) (fun H1 locs hB hz1 hk1 hS => ?_)
    obtain ⟨fa9, fq9, hC, hB⟩ := hB
    obtain ⟨hP, hD⟩ := c_join (ws' := [(mm, .inr (3, [.int 0, .int (nI d), .int (nI r), .int ld, .int pl, .ref ao, .ref al, .int li, .int tl, .int mo, .ref aw, .ref aq, .int (nI (goS (safS fo fl pl u) d r).2.2)])), (ao, .inl (cI, 4, .inl fo)), (al, .inl (cI, 31, .inl fl)), (aw, .inl (cI, 248, .inl fa9)), (aq, .inl (cI, 248, .inl fq9))]) (wr := []) (w1 := [(mm, .inr (3, [.int 0, .int (nI d), .int (nI r), .int ld, .int pl, .ref ao, .ref al, .int li, .int tl, .int mo, .ref aw, .ref aq, .int (nI (goS (safS fo fl pl u) d r).2.2)])), (ao, .inl (cI, 4, .inl fo)), (al, .inl (cI, 31, .inl fl)), (aw, .inl (cI, 248, .inl fa9)), (aq, .inl (cI, 248, .inl fq9))]) hP hD [0, 1, 2, 3, 4] [] [0, 1, 2, 3, 4] rfl rfl (by decide) (by decide) hk1 hB rfl rfl rfl (by decide)
    generalize H1 = H at hP hS ⊢
    show W _ _ _ _ _ _ _ _ _ _ _ _ _ _ _ (F0 m 17 ls [.int (nI (goS (safS fo fl pl u) d r).2.2)])
    refine lv_goto (tgt := 25) hx hb dX3_placesWithin_17 (by decide) ?_
    have hK1 : k1 (inR u 0 60) = 0 := k1_yes hp
    exact W.iret (v := (nI (goS (safS fo fl pl u) d r).2.2)) hx hb hRt (fun t ht hW => ⟨⟨by simp only [if_pos hK1], by rw [ht]; exact (by rw [hK1]; exact ⟨_, _, _, hP⟩)⟩, hS.F ht⟩) hS.2.2 dX3_placesWithin_25
set_option maxHeartbeats 4000000 in
set_option maxRecDepth 100000 in
/-- fewestMoves -/
theorem q_fewestMoves (l : Launch) (D : va_G) (L0 : Nat) (cI : ClassId) (mm ao al aw aq d r : Nat) (th ld pl li tl mo mn : Int32) (fo fl : Nat → Int32) (fa fq : Nat → Int32) (u v z : Int32) (hd : d < 8) (hr : 3 ≤ r ∧ r ≤ 30) : Met l yX3_fewestMoves wsX3_fewestMoves ({ frames := 5, cells := 0, slots := 0, locals := 130 }) (cP L0 D [(cI, .int)] [(mm, .inr (3, [.int th, .int (nI d), .int (nI r), .int ld, .int pl, .ref ao, .ref al, .int li, .int tl, .int mo, .ref aw, .ref aq, .int mn])), (ao, .inl (cI, 4, .inl fo)), (al, .inl (cI, 31, .inl fl)), (aw, .inl (cI, 248, .inl fa)), (aq, .inl (cI, 248, .inl fq))] [.ref mm, .int u, .int v, .int z]) (cB (some (.int (if k2 (inR v 0 7) (inR u 0 60 ∧ inR z 3 30) = 0 then (goS (safS fo fl pl u) d r).1 (8 * z.toNatClampNeg + v.toNatClampNeg) else 0))) (fun H => ∃ (n9 : Int32) (a9 q9 : Nat → Int32), va_P D vwCl [(mm, .inr (3, [.int (k2 (inR v 0 7) (inR u 0 60 ∧ inR z 3 30)), .int (nI d), .int (nI r), .int ld, .int pl, .ref ao, .ref al, .int li, .int tl, .int mo, .ref aw, .ref aq, .int n9])), (ao, .inl (cI, 4, .inl fo)), (al, .inl (cI, 31, .inl fl)), (aw, .inl (cI, 248, .inl a9)), (aq, .inl (cI, 248, .inl q9))] H) (cA [(mm, .inr (3, [.int th, .int (nI d), .int (nI r), .int ld, .int pl, .ref ao, .ref al, .int li, .int tl, .int mo, .ref aw, .ref aq, .int mn])), (ao, .inl (cI, 4, .inl fo)), (al, .inl (cI, 31, .inl fl)), (aw, .inl (cI, 248, .inl fa)), (aq, .inl (cI, 248, .inl fq))])) 0 0 (cA [(mm, .inr (3, [.int th, .int (nI d), .int (nI r), .int ld, .int pl, .ref ao, .ref al, .int li, .int tl, .int mo, .ref aw, .ref aq, .int mn])), (ao, .inl (cI, 4, .inl fo)), (al, .inl (cI, 31, .inl fl)), (aw, .inl (cI, 248, .inl fa)), (aq, .inl (cI, 248, .inl fq))]) := by
  refine Met.ofW (cc := cX3_fewestMoves) (maxL := 4) (ret := (some .int)) (by decide) rfl ?_
  intro p e s m args below meth c s₁ B hml hv
  obtain ⟨rfl, hP, hK, hD0, hE0⟩ := hv
  have hx := B.exec
  have hb := B.bytes
  have hRt := B.returns
  have hts := atoms_spec (ws := wsX3_fewestMoves) B.pre
  have hown : s.vm.findClass RX3 = some m.cls := findClass_of_methodNamed B.named
  have hlocks := B.notSynchronized
  have hAL : ∀ z9 : Nat, cA [(mm, .inr (3, [.int th, .int (nI d), .int (nI r), .int ld, .int pl, .ref ao, .ref al, .int li, .int tl, .int mo, .ref aw, .ref aq, .int mn])), (ao, .inl (cI, 4, .inl fo)), (al, .inl (cI, 31, .inl fl)), (aw, .inl (cI, 248, .inl fa)), (aq, .inl (cI, 248, .inl fq))] z9 → L0 ≤ z9 := fun z9 ⟨k9, e9, h9⟩ => hD0.2 k9 (z9, e9) h9
  have hD : va_D (cA [(mm, .inr (3, [.int th, .int (nI d), .int (nI r), .int ld, .int pl, .ref ao, .ref al, .int li, .int tl, .int mo, .ref aw, .ref aq, .int mn])), (ao, .inl (cI, 4, .inl fo)), (al, .inl (cI, 31, .inl fl)), (aw, .inl (cI, 248, .inl fa)), (aq, .inl (cI, 248, .inl fq))]) [(mm, .inr (3, [.int th, .int (nI d), .int (nI r), .int ld, .int pl, .ref ao, .ref al, .int li, .int tl, .int mo, .ref aw, .ref aq, .int mn])), (ao, .inl (cI, 4, .inl fo)), (al, .inl (cI, 31, .inl fl)), (aw, .inl (cI, 248, .inl fa)), (aq, .inl (cI, 248, .inl fq))] := ⟨hD0.1, fun k9 z9 h9 => cA_of h9⟩
  generalize hAe : cA [(mm, .inr (3, [.int th, .int (nI d), .int (nI r), .int ld, .int pl, .ref ao, .ref al, .int li, .int tl, .int mo, .ref aw, .ref aq, .int mn])), (ao, .inl (cI, 4, .inl fo)), (al, .inl (cI, 31, .inl fl)), (aw, .inl (cI, 248, .inl fa)), (aq, .inl (cI, 248, .inl fq))] = A at hD hAL ⊢
  have hS : va_S A s.heap s.heap [] := va_S.rf
  have hiX3 : ∀ w ∈ u_ws RX3 TX3 13, w ∈ wsX3_fewestMoves := by decide +kernel
  have hl := lv_entry ([.ref mm, .int u, .int v, .int z]) (n := 4) (Nat.le_of_ble_eq_true rfl)
  rw [lg_entry_eq]
  generalize (lg_sl ([.ref mm, .int u, .int v, .int z]) ++ List.replicate (4 - (lg_sl ([.ref mm, .int u, .int v, .int z])).length) Slot.unset).toArray = ls at hl ⊢
  have hl : lv_has ls 4 [(0, .ref mm), (1, .int u), (2, .int v), (3, .int z)] := hl
  refine lv_aload_n hx hb dX3_fewestMoves_0 rfl (lv_at hl 0 rfl) ?_
  refine lv_iconst (v := 0) hx hb dX3_fewestMoves_1 (by decide) ?_
  refine va_put (D := D) (ci := 3) (v := .int 0) (ty := .int) (C := RX3) (T := TX3) (N := 13) hx hb hts hiX3 tyX3 tyX3_ok nmX3 hown hK hP hD hS 0 rfl rfl 0 (by decide) (hts (.fieldLink RX3 26 "CraneReachModel" "thrown" "I") (by decide +kernel)) (fun _ h9 => h9) rfl (by decide +kernel) rfl rfl (Nat.le_of_ble_eq_true rfl) dX3_fewestMoves_2 (fun H locs hP hD hS => ?_)
  have hP : va_P D vwCl [(mm, .inr (3, [.int 0, .int (nI d), .int (nI r), .int ld, .int pl, .ref ao, .ref al, .int li, .int tl, .int mo, .ref aw, .ref aq, .int mn])), (ao, .inl (cI, 4, .inl fo)), (al, .inl (cI, 31, .inl fl)), (aw, .inl (cI, 248, .inl fa)), (aq, .inl (cI, 248, .inl fq))] H := hP
  have hD : va_D A [(mm, .inr (3, [.int 0, .int (nI d), .int (nI r), .int ld, .int pl, .ref ao, .ref al, .int li, .int tl, .int mo, .ref aw, .ref aq, .int mn])), (ao, .inl (cI, 4, .inl fo)), (al, .inl (cI, 31, .inl fl)), (aw, .inl (cI, 248, .inl fa)), (aq, .inl (cI, 248, .inl fq))] := hD
  refine lv_iload_n hx hb dX3_fewestMoves_5 rfl (lv_at hl 2 rfl) ?_
  have hPc := hP.sub (ws' := []) [] rfl
  have hDc : va_D (fun q : Nat => L0 ≤ q) [] := (hD.sub (ws' := []) [] (by decide) rfl).weaken (fun _ z9 _ h9 => hAL _ h9)
  have hKc := hK.sub (tys' := []) [] rfl
  refine c_callR (va_runS (As := [.int v]) (rest := []) ⟨hx, hb, hml, hown, hts⟩ (q_isDirection l D L0 v) (va_cwS 1 hts gX3_fewestMoves_X3_isDirection rfl rfl rfl (by decide +kernel) ⟨Nat.le_of_ble_eq_true rfl, Nat.le_of_ble_eq_true rfl⟩) ⟨cP_blind, cP_of hPc hKc hDc (kE_at hE0 hAL hS)⟩ rfl rfl hl.1 rfl (lv_room (Nat.le_of_ble_eq_true rfl)) dX3_fewestMoves_6 ⟨Nat.le_of_ble_eq_true rfl, Nat.le_of_ble_eq_true rfl⟩) ?_
  show W _ _ _ _ _ _ _ _ _ _ _ _ _ _ _ (F0 m 9 ls [.int (bI (decide (0 ≤ v) && decide (v ≤ 7)))])
  obtain ⟨b_13, hbv_14⟩ : ∃ z9 : Bool, z9 = (decide (0 ≤ v) && decide (v ≤ 7)) := ⟨_, rfl⟩
  refine c_top (show (bI (decide (0 ≤ v) && decide (v ≤ 7))) = bI b_13 from by rw [hbv_14]) ?_
  refine lv_if_ne (tgt := 18) hx hb dX3_fewestMoves_9 (by decide) (fun c_15 => ?_) (fun c_15 => ?_)
  · have hp1 : inR v 0 7 := by cases b_13 with | true => simpa using hbv_14.symm | false => exact absurd rfl c_15
    refine lv_iload_n hx hb dX3_fewestMoves_18 rfl (lv_at hl 1 rfl) ?_
    have hPc := hP.sub (ws' := []) [] rfl
    have hDc : va_D (fun q : Nat => L0 ≤ q) [] := (hD.sub (ws' := []) [] (by decide) rfl).weaken (fun _ z9 _ h9 => hAL _ h9)
    have hKc := hK.sub (tys' := []) [] rfl
    refine c_callR (va_runS (As := [.int u]) (rest := []) ⟨hx, hb, hml, hown, hts⟩ (q_isLoad l D L0 u) (va_cwS 1 hts gX3_fewestMoves_X3_isLoad rfl rfl rfl (by decide +kernel) ⟨Nat.le_of_ble_eq_true rfl, Nat.le_of_ble_eq_true rfl⟩) ⟨cP_blind, cP_of hPc hKc hDc (kE_at hE0 hAL hS)⟩ rfl rfl hl.1 rfl (lv_room (Nat.le_of_ble_eq_true rfl)) dX3_fewestMoves_19 ⟨Nat.le_of_ble_eq_true rfl, Nat.le_of_ble_eq_true rfl⟩) ?_
    show W _ _ _ _ _ _ _ _ _ _ _ _ _ _ _ (F0 m 22 ls [.int (bI (decide (0 ≤ u) && decide (u ≤ 60)))])
    obtain ⟨b_16, hbv_17⟩ : ∃ z9 : Bool, z9 = (decide (0 ≤ u) && decide (u ≤ 60)) := ⟨_, rfl⟩
    refine c_top (show (bI (decide (0 ≤ u) && decide (u ≤ 60))) = bI b_16 from by rw [hbv_17]) ?_
    refine lv_if_eq (tgt := 32) hx hb dX3_fewestMoves_22 (by decide) (fun c_18 => ?_) (fun c_18 => ?_)
    · have hn : ¬ (inR u 0 60) := fun hp => absurd c_18 (by rw [hbv_17]; simp [hp.1, hp.2, bI])
      refine lv_aload_n hx hb dX3_fewestMoves_32 rfl (lv_at hl 0 rfl) ?_
      refine lv_iconst (v := 2) hx hb dX3_fewestMoves_33 (by decide) ?_
      have hPc := hP.sub (ws' := [(mm, .inr (3, [.int 0, .int (nI d), .int (nI r), .int ld, .int pl, .ref ao, .ref al, .int li, .int tl, .int mo, .ref aw, .ref aq, .int mn]))]) [0] rfl
      have hDc : va_D (fun q : Nat => L0 ≤ q) [(mm, .inr (3, [.int 0, .int (nI d), .int (nI r), .int ld, .int pl, .ref ao, .ref al, .int li, .int tl, .int mo, .ref aw, .ref aq, .int mn]))] := (hD.sub (ws' := [(mm, .inr (3, [.int 0, .int (nI d), .int (nI r), .int ld, .int pl, .ref ao, .ref al, .int li, .int tl, .int mo, .ref aw, .ref aq, .int mn]))]) [0] (by decide) rfl).weaken (fun _ z9 _ h9 => hAL _ h9)
      have hKc := hK.sub (tys' := []) [] rfl
      refine c_callB (va_runV (As := [.int 2]) (rest := []) ⟨hx, hb, hml, hown, hts⟩ (q_no l D L0 mm ao al aw aq d r 0 ld pl li tl mo mn 2) (cwV 1 hts gX3_fewestMoves_X3_no rfl rfl rfl (by decide +kernel) ⟨Nat.le_of_ble_eq_true rfl, Nat.le_of_ble_eq_true rfl⟩) ⟨cP_blind, va_recv hKc hPc (ci := 3) (q0 := 0) rfl rfl, cP_of hPc hKc hDc (kE_at hE0 hAL hS)⟩ rfl rfl hl.1 rfl (lv_room (Nat.le_of_ble_eq_true rfl)) dX3_fewestMoves_34 ⟨Nat.le_of_ble_eq_true rfl, Nat.le_of_ble_eq_true rfl⟩) hS (fun z9 _ ⟨k9, e9, h9⟩ => (hD.sub (ws' := [(mm, .inr (3, [.int 0, .int (nI d), .int (nI r), .int ld, .int pl, .ref ao, .ref al, .int li, .int tl, .int mo, .ref aw, .ref aq, .int mn]))]) [0] (by decide) rfl).2 k9 (z9, e9) h9) (fun z9 ⟨k9, e9, h9⟩ => (hD.sub (ws' := [(mm, .inr (3, [.int 0, .int (nI d), .int (nI r), .int ld, .int pl, .ref ao, .ref al, .int li, .int tl, .int mo, .ref aw, .ref aq, .int mn]))]) [0] (by decide) rfl).2 k9 (z9, e9) h9) (fun H1 locs hB hz1 hk1 hS => ?_)
      obtain ⟨hP, hD⟩ := c_join (ws' := [(mm, .inr (3, [.int 2, .int (nI d), .int (nI r), .int ld, .int pl, .ref ao, .ref al, .int li, .int tl, .int mo, .ref aw, .ref aq, .int mn])), (ao, .inl (cI, 4, .inl fo)), (al, .inl (cI, 31, .inl fl)), (aw, .inl (cI, 248, .inl fa)), (aq, .inl (cI, 248, .inl fq))]) (wr := [(ao, .inl (cI, 4, .inl fo)), (al, .inl (cI, 31, .inl fl)), (aw, .inl (cI, 248, .inl fa)), (aq, .inl (cI, 248, .inl fq))]) (w1 := [(mm, .inr (3, [.int 2, .int (nI d), .int (nI r), .int ld, .int pl, .ref ao, .ref al, .int li, .int tl, .int mo, .ref aw, .ref aq, .int mn]))]) hP hD [0] [1, 2, 3, 4] [4, 0, 1, 2, 3] rfl rfl (by decide) (by decide) hk1 hB rfl rfl rfl (by decide)
      generalize H1 = H at hP hS ⊢
      show W _ _ _ _ _ _ _ _ _ _ _ _ _ _ _ (F0 m 37 ls [.int 0])
      have hK1 : k2 (inR v 0 7) (inR u 0 60 ∧ inR z 3 30) = 2 := k2_n2 hp1 (fun q => hn q.1)
      have hKn : ¬ k2 (inR v 0 7) (inR u 0 60 ∧ inR z 3 30) = 0 := by rw [hK1]; decide
      exact W.iret (v := 0) hx hb hRt (fun t ht hW => ⟨⟨by simp only [if_neg hKn], by rw [ht]; exact (by rw [hK1]; exact ⟨_, _, _, hP⟩)⟩, hS.F ht⟩) hS.2.2 dX3_fewestMoves_37
    · have hp2 : inR u 0 60 := by cases b_16 with | true => simpa using hbv_17.symm | false => exact absurd rfl c_18
      refine lv_iload_n hx hb dX3_fewestMoves_25 rfl (lv_at hl 3 rfl) ?_
      have hPc := hP.sub (ws' := []) [] rfl
      have hDc : va_D (fun q : Nat => L0 ≤ q) [] := (hD.sub (ws' := []) [] (by decide) rfl).weaken (fun _ z9 _ h9 => hAL _ h9)
      have hKc := hK.sub (tys' := []) [] rfl
      refine c_callR (va_runS (As := [.int z]) (rest := []) ⟨hx, hb, hml, hown, hts⟩ (q_isReach l D L0 z) (va_cwS 1 hts gX3_fewestMoves_X3_isReach rfl rfl rfl (by decide +kernel) ⟨Nat.le_of_ble_eq_true rfl, Nat.le_of_ble_eq_true rfl⟩) ⟨cP_blind, cP_of hPc hKc hDc (kE_at hE0 hAL hS)⟩ rfl rfl hl.1 rfl (lv_room (Nat.le_of_ble_eq_true rfl)) dX3_fewestMoves_26 ⟨Nat.le_of_ble_eq_true rfl, Nat.le_of_ble_eq_true rfl⟩) ?_
      show W _ _ _ _ _ _ _ _ _ _ _ _ _ _ _ (F0 m 29 ls [.int (bI (decide (3 ≤ z) && decide (z ≤ 30)))])
      obtain ⟨b_19, hbv_20⟩ : ∃ z9 : Bool, z9 = (decide (3 ≤ z) && decide (z ≤ 30)) := ⟨_, rfl⟩
      refine c_top (show (bI (decide (3 ≤ z) && decide (z ≤ 30))) = bI b_19 from by rw [hbv_20]) ?_
      refine lv_if_ne (tgt := 38) hx hb dX3_fewestMoves_29 (by decide) (fun c_21 => ?_) (fun c_21 => ?_)
      · have hp3 : inR z 3 30 := by cases b_19 with | true => simpa using hbv_20.symm | false => exact absurd rfl c_21
        obtain ⟨kv, hkv, hv⟩ := inR_nI (n := 7) (by decide) hp1
        have hl : lv_has ls 4 [(0, .ref mm), (1, .int u), (2, .int (nI kv)), (3, .int z)] := (show v = nI kv from hv) ▸ hl
        obtain ⟨kz, hkz, hz⟩ := inR_n3 (n := 30) (by decide) hp3
        have hl : lv_has ls 4 [(0, .ref mm), (1, .int u), (2, .int (nI kv)), (3, .int (nI kz))] := (show z = nI kz from hz) ▸ hl
        have hvn : v.toNatClampNeg = kv := by rw [hv, nI_clamp (by omega)]
        have hzn : z.toNatClampNeg = kz := by rw [hz, nI_clamp (by omega)]
        refine lv_aload_n hx hb dX3_fewestMoves_38 rfl (lv_at hl 0 rfl) ?_
        refine lv_iload_n hx hb dX3_fewestMoves_39 rfl (lv_at hl 1 rfl) ?_
        have hPc := hP.sub (ws' := [(mm, .inr (3, [.int 0, .int (nI d), .int (nI r), .int ld, .int pl, .ref ao, .ref al, .int li, .int tl, .int mo, .ref aw, .ref aq, .int mn])), (ao, .inl (cI, 4, .inl fo)), (al, .inl (cI, 31, .inl fl)), (aw, .inl (cI, 248, .inl fa)), (aq, .inl (cI, 248, .inl fq))]) [0, 1, 2, 3, 4] rfl
        have hDc : va_D (fun q : Nat => L0 ≤ q) [(mm, .inr (3, [.int 0, .int (nI d), .int (nI r), .int ld, .int pl, .ref ao, .ref al, .int li, .int tl, .int mo, .ref aw, .ref aq, .int mn])), (ao, .inl (cI, 4, .inl fo)), (al, .inl (cI, 31, .inl fl)), (aw, .inl (cI, 248, .inl fa)), (aq, .inl (cI, 248, .inl fq))] := (hD.sub (ws' := [(mm, .inr (3, [.int 0, .int (nI d), .int (nI r), .int ld, .int pl, .ref ao, .ref al, .int li, .int tl, .int mo, .ref aw, .ref aq, .int mn])), (ao, .inl (cI, 4, .inl fo)), (al, .inl (cI, 31, .inl fl)), (aw, .inl (cI, 248, .inl fa)), (aq, .inl (cI, 248, .inl fq))]) [0, 1, 2, 3, 4] (by decide) rfl).weaken (fun _ z9 _ h9 => hAL _ h9)
        have hKc := hK.sub (tys' := [(cI, .int)]) [0] rfl
        refine c_callB (va_runV (As := [.int u]) (rest := []) ⟨hx, hb, hml, hown, hts⟩ (q_goOut l D L0 cI mm ao al aw aq d r 0 ld pl li tl mo mn fo fl fa fq u hd hr) (cwV 1 hts gX3_fewestMoves_X3_goOut rfl rfl rfl (by decide +kernel) ⟨Nat.le_of_ble_eq_true rfl, Nat.le_of_ble_eq_true rfl⟩) ⟨cP_blind, va_recv hKc hPc (ci := 3) (q0 := 0) rfl rfl, cP_of hPc hKc hDc (kE_at hE0 hAL hS)⟩ rfl rfl hl.1 rfl (lv_room (Nat.le_of_ble_eq_true rfl)) dX3_fewestMoves_40 ⟨Nat.le_of_ble_eq_true rfl, Nat.le_of_ble_eq_true rfl⟩) hS (fun z9 _ ⟨k9, e9, h9⟩ => (hD.sub (ws' := [(mm, .inr (3, [.int 0, .int (nI d), .int (nI r), .int ld, .int pl, .ref ao, .ref al, .int li, .int tl, .int mo, .ref aw, .ref aq, .int mn])), (ao, .inl (cI, 4, .inl fo)), (al, .inl (cI, 31, .inl fl)), (aw, .inl (cI, 248, .inl fa)), (aq, .inl (cI, 248, .inl fq))]) [0, 1, 2, 3, 4] (by decide) rfl).2 k9 (z9, e9) h9) (fun z9 ⟨k9, e9, h9⟩ => (hD.sub (ws' := [(mm, .inr (3, [.int 0, .int (nI d), .int (nI r), .int ld, .int pl, .ref ao, .ref al, .int li, .int tl, .int mo, .ref aw, .ref aq, .int mn])), (ao, .inl (cI, 4, .inl fo)), (al, .inl (cI, 31, .inl fl)), (aw, .inl (cI, 248, .inl fa)), (aq, .inl (cI, 248, .inl fq))]) [0, 1, 2, 3, 4] (by decide) rfl).2 k9 (z9, e9) h9) (fun H1 locs hB hz1 hk1 hS => ?_)
        obtain ⟨fa9, fq9, hC, hB⟩ := hB
        obtain ⟨hP, hD⟩ := c_join (ws' := [(mm, .inr (3, [.int 0, .int (nI d), .int (nI r), .int ld, .int pl, .ref ao, .ref al, .int li, .int tl, .int mo, .ref aw, .ref aq, .int (nI (goS (safS fo fl pl u) d r).2.2)])), (ao, .inl (cI, 4, .inl fo)), (al, .inl (cI, 31, .inl fl)), (aw, .inl (cI, 248, .inl fa9)), (aq, .inl (cI, 248, .inl fq9))]) (wr := []) (w1 := [(mm, .inr (3, [.int 0, .int (nI d), .int (nI r), .int ld, .int pl, .ref ao, .ref al, .int li, .int tl, .int mo, .ref aw, .ref aq, .int (nI (goS (safS fo fl pl u) d r).2.2)])), (ao, .inl (cI, 4, .inl fo)), (al, .inl (cI, 31, .inl fl)), (aw, .inl (cI, 248, .inl fa9)), (aq, .inl (cI, 248, .inl fq9))]) hP hD [0, 1, 2, 3, 4] [] [0, 1, 2, 3, 4] rfl rfl (by decide) (by decide) hk1 hB rfl rfl rfl (by decide)
        generalize H1 = H at hP hS ⊢
        show W _ _ _ _ _ _ _ _ _ _ _ _ _ _ _ (F0 m 43 ls [])
        refine lv_aload_n hx hb dX3_fewestMoves_43 rfl (lv_at hl 0 rfl) ?_
        refine va_get (D := D) (ci := 3) (v := .ref aw) (C := RX3) (T := TX3) (N := 13) hx hb hts hiX3 hown hK hP 0 rfl rfl 10 (by decide) (hts (.fieldLink RX3 20 "CraneReachModel" "away" "[I") (by decide +kernel)) (fun _ h9 => h9) rfl dX3_fewestMoves_44 ?_
        refine lv_bipush (v := 8) hx hb dX3_fewestMoves_47 (by decide) ?_
        refine lv_iload_n hx hb dX3_fewestMoves_49 rfl (lv_at hl 3 rfl) ?_
        refine lv_imul hx hb dX3_fewestMoves_50 ?_
        refine lv_iload_n hx hb dX3_fewestMoves_51 rfl (lv_at hl 2 rfl) ?_
        refine lv_iadd hx hb dX3_fewestMoves_52 ?_
        refine c_top (show ((8 * (nI kz)) + (nI kv)) = nI (8 * kz + kv) from c8_c kv kz) ?_
        refine va_iald hx hb hK hP 3 0 rfl rfl (vp_in_nI (by omega) (by decide)) dX3_fewestMoves_53 ?_
        refine c_top (show (fa9 (nI (8 * kz + kv)).toNatClampNeg) = fa9 (8 * kz + kv) from by rw [nI_clamp (by omega)]) ?_
        refine c_top (show (fa9 (8 * kz + kv)) = (goS (safS fo fl pl u) d r).1 (8 * kz + kv) from hC.1 _ (by omega)) ?_
        have hK1 : k2 (inR v 0 7) (inR u 0 60 ∧ inR z 3 30) = 0 := k2_yes hp1 ⟨hp2, hp3⟩
        exact W.iret (v := ((goS (safS fo fl pl u) d r).1 (8 * kz + kv))) hx hb hRt (fun t ht hW => ⟨⟨by simp only [if_pos hK1]; rw [hvn, hzn], by rw [ht]; exact (by rw [hK1]; exact ⟨_, _, _, hP⟩)⟩, hS.F ht⟩) hS.2.2 dX3_fewestMoves_54
      · have hn : ¬ (inR z 3 30) := fun hp => absurd c_21 (by rw [hbv_20]; simp [hp.1, hp.2, bI])
        refine lv_aload_n hx hb dX3_fewestMoves_32 rfl (lv_at hl 0 rfl) ?_
        refine lv_iconst (v := 2) hx hb dX3_fewestMoves_33 (by decide) ?_
        have hPc := hP.sub (ws' := [(mm, .inr (3, [.int 0, .int (nI d), .int (nI r), .int ld, .int pl, .ref ao, .ref al, .int li, .int tl, .int mo, .ref aw, .ref aq, .int mn]))]) [0] rfl
        have hDc : va_D (fun q : Nat => L0 ≤ q) [(mm, .inr (3, [.int 0, .int (nI d), .int (nI r), .int ld, .int pl, .ref ao, .ref al, .int li, .int tl, .int mo, .ref aw, .ref aq, .int mn]))] := (hD.sub (ws' := [(mm, .inr (3, [.int 0, .int (nI d), .int (nI r), .int ld, .int pl, .ref ao, .ref al, .int li, .int tl, .int mo, .ref aw, .ref aq, .int mn]))]) [0] (by decide) rfl).weaken (fun _ z9 _ h9 => hAL _ h9)
        have hKc := hK.sub (tys' := []) [] rfl
        refine c_callB (va_runV (As := [.int 2]) (rest := []) ⟨hx, hb, hml, hown, hts⟩ (q_no l D L0 mm ao al aw aq d r 0 ld pl li tl mo mn 2) (cwV 1 hts gX3_fewestMoves_X3_no rfl rfl rfl (by decide +kernel) ⟨Nat.le_of_ble_eq_true rfl, Nat.le_of_ble_eq_true rfl⟩) ⟨cP_blind, va_recv hKc hPc (ci := 3) (q0 := 0) rfl rfl, cP_of hPc hKc hDc (kE_at hE0 hAL hS)⟩ rfl rfl hl.1 rfl (lv_room (Nat.le_of_ble_eq_true rfl)) dX3_fewestMoves_34 ⟨Nat.le_of_ble_eq_true rfl, Nat.le_of_ble_eq_true rfl⟩) hS (fun z9 _ ⟨k9, e9, h9⟩ => (hD.sub (ws' := [(mm, .inr (3, [.int 0, .int (nI d), .int (nI r), .int ld, .int pl, .ref ao, .ref al, .int li, .int tl, .int mo, .ref aw, .ref aq, .int mn]))]) [0] (by decide) rfl).2 k9 (z9, e9) h9) (fun z9 ⟨k9, e9, h9⟩ => (hD.sub (ws' := [(mm, .inr (3, [.int 0, .int (nI d), .int (nI r), .int ld, .int pl, .ref ao, .ref al, .int li, .int tl, .int mo, .ref aw, .ref aq, .int mn]))]) [0] (by decide) rfl).2 k9 (z9, e9) h9) (fun H1 locs hB hz1 hk1 hS => ?_)
        obtain ⟨hP, hD⟩ := c_join (ws' := [(mm, .inr (3, [.int 2, .int (nI d), .int (nI r), .int ld, .int pl, .ref ao, .ref al, .int li, .int tl, .int mo, .ref aw, .ref aq, .int mn])), (ao, .inl (cI, 4, .inl fo)), (al, .inl (cI, 31, .inl fl)), (aw, .inl (cI, 248, .inl fa)), (aq, .inl (cI, 248, .inl fq))]) (wr := [(ao, .inl (cI, 4, .inl fo)), (al, .inl (cI, 31, .inl fl)), (aw, .inl (cI, 248, .inl fa)), (aq, .inl (cI, 248, .inl fq))]) (w1 := [(mm, .inr (3, [.int 2, .int (nI d), .int (nI r), .int ld, .int pl, .ref ao, .ref al, .int li, .int tl, .int mo, .ref aw, .ref aq, .int mn]))]) hP hD [0] [1, 2, 3, 4] [4, 0, 1, 2, 3] rfl rfl (by decide) (by decide) hk1 hB rfl rfl rfl (by decide)
        generalize H1 = H at hP hS ⊢
        show W _ _ _ _ _ _ _ _ _ _ _ _ _ _ _ (F0 m 37 ls [.int 0])
        have hK1 : k2 (inR v 0 7) (inR u 0 60 ∧ inR z 3 30) = 2 := k2_n2 hp1 (fun q => hn q.2)
        have hKn : ¬ k2 (inR v 0 7) (inR u 0 60 ∧ inR z 3 30) = 0 := by rw [hK1]; decide
        exact W.iret (v := 0) hx hb hRt (fun t ht hW => ⟨⟨by simp only [if_neg hKn], by rw [ht]; exact (by rw [hK1]; exact ⟨_, _, _, hP⟩)⟩, hS.F ht⟩) hS.2.2 dX3_fewestMoves_37
  · have hn : ¬ (inR v 0 7) := fun hp => absurd c_15 (by rw [hbv_14]; simp [hp.1, hp.2, bI])
    refine lv_aload_n hx hb dX3_fewestMoves_12 rfl (lv_at hl 0 rfl) ?_
    refine lv_iconst (v := 1) hx hb dX3_fewestMoves_13 (by decide) ?_
    have hPc := hP.sub (ws' := [(mm, .inr (3, [.int 0, .int (nI d), .int (nI r), .int ld, .int pl, .ref ao, .ref al, .int li, .int tl, .int mo, .ref aw, .ref aq, .int mn]))]) [0] rfl
    have hDc : va_D (fun q : Nat => L0 ≤ q) [(mm, .inr (3, [.int 0, .int (nI d), .int (nI r), .int ld, .int pl, .ref ao, .ref al, .int li, .int tl, .int mo, .ref aw, .ref aq, .int mn]))] := (hD.sub (ws' := [(mm, .inr (3, [.int 0, .int (nI d), .int (nI r), .int ld, .int pl, .ref ao, .ref al, .int li, .int tl, .int mo, .ref aw, .ref aq, .int mn]))]) [0] (by decide) rfl).weaken (fun _ z9 _ h9 => hAL _ h9)
    have hKc := hK.sub (tys' := []) [] rfl
    refine c_callB (va_runV (As := [.int 1]) (rest := []) ⟨hx, hb, hml, hown, hts⟩ (q_no l D L0 mm ao al aw aq d r 0 ld pl li tl mo mn 1) (cwV 1 hts gX3_fewestMoves_X3_no rfl rfl rfl (by decide +kernel) ⟨Nat.le_of_ble_eq_true rfl, Nat.le_of_ble_eq_true rfl⟩) ⟨cP_blind, va_recv hKc hPc (ci := 3) (q0 := 0) rfl rfl, cP_of hPc hKc hDc (kE_at hE0 hAL hS)⟩ rfl rfl hl.1 rfl (lv_room (Nat.le_of_ble_eq_true rfl)) dX3_fewestMoves_14 ⟨Nat.le_of_ble_eq_true rfl, Nat.le_of_ble_eq_true rfl⟩) hS (fun z9 _ ⟨k9, e9, h9⟩ => (hD.sub (ws' := [(mm, .inr (3, [.int 0, .int (nI d), .int (nI r), .int ld, .int pl, .ref ao, .ref al, .int li, .int tl, .int mo, .ref aw, .ref aq, .int mn]))]) [0] (by decide) rfl).2 k9 (z9, e9) h9) (fun z9 ⟨k9, e9, h9⟩ => (hD.sub (ws' := [(mm, .inr (3, [.int 0, .int (nI d), .int (nI r), .int ld, .int pl, .ref ao, .ref al, .int li, .int tl, .int mo, .ref aw, .ref aq, .int mn]))]) [0] (by decide) rfl).2 k9 (z9, e9) h9) (fun H1 locs hB hz1 hk1 hS => ?_)
    obtain ⟨hP, hD⟩ := c_join (ws' := [(mm, .inr (3, [.int 1, .int (nI d), .int (nI r), .int ld, .int pl, .ref ao, .ref al, .int li, .int tl, .int mo, .ref aw, .ref aq, .int mn])), (ao, .inl (cI, 4, .inl fo)), (al, .inl (cI, 31, .inl fl)), (aw, .inl (cI, 248, .inl fa)), (aq, .inl (cI, 248, .inl fq))]) (wr := [(ao, .inl (cI, 4, .inl fo)), (al, .inl (cI, 31, .inl fl)), (aw, .inl (cI, 248, .inl fa)), (aq, .inl (cI, 248, .inl fq))]) (w1 := [(mm, .inr (3, [.int 1, .int (nI d), .int (nI r), .int ld, .int pl, .ref ao, .ref al, .int li, .int tl, .int mo, .ref aw, .ref aq, .int mn]))]) hP hD [0] [1, 2, 3, 4] [4, 0, 1, 2, 3] rfl rfl (by decide) (by decide) hk1 hB rfl rfl rfl (by decide)
    generalize H1 = H at hP hS ⊢
    show W _ _ _ _ _ _ _ _ _ _ _ _ _ _ _ (F0 m 17 ls [.int 0])
    have hK1 : k2 (inR v 0 7) (inR u 0 60 ∧ inR z 3 30) = 1 := k2_n1 hn
    have hKn : ¬ k2 (inR v 0 7) (inR u 0 60 ∧ inR z 3 30) = 0 := by rw [hK1]; decide
    exact W.iret (v := 0) hx hb hRt (fun t ht hW => ⟨⟨by simp only [if_neg hKn], by rw [ht]; exact (by rw [hK1]; exact ⟨_, _, _, hP⟩)⟩, hS.F ht⟩) hS.2.2 dX3_fewestMoves_17
set_option maxHeartbeats 4000000 in
set_option maxRecDepth 100000 in
/-- fewestPlates -/
theorem q_fewestPlates (l : Launch) (D : va_G) (L0 : Nat) (cI : ClassId) (mm ao al aw aq d r : Nat) (th ld pl li tl mo mn : Int32) (fo fl : Nat → Int32) (u : Int32) (kv kz : Nat) (hkv : kv < 8) (hkz : 3 ≤ kz ∧ kz ≤ 30) : Met l yX3_fewestPlates wsX3_fewestPlates ({ frames := 3, cells := 0, slots := 0, locals := 81 }) (cP L0 D [(cI, .int)] [(mm, .inr (3, [.int th, .int (nI d), .int (nI r), .int ld, .int pl, .ref ao, .ref al, .int li, .int tl, .int mo, .ref aw, .ref aq, .int mn])), (ao, .inl (cI, 4, .inl fo)), (al, .inl (cI, 31, .inl fl))] [.ref mm, .int u, .int (nI kv), .int (nI kz)]) (cB (some (.int (pnN (fun k => safS fo fl (nI k) u kv kz) 13 0))) (fun H => va_P D vwCl [(mm, .inr (3, [.int th, .int (nI d), .int (nI r), .int ld, .int pl, .ref ao, .ref al, .int li, .int tl, .int mo, .ref aw, .ref aq, .int mn])), (ao, .inl (cI, 4, .inl fo)), (al, .inl (cI, 31, .inl fl))] H) (cA [(mm, .inr (3, [.int th, .int (nI d), .int (nI r), .int ld, .int pl, .ref ao, .ref al, .int li, .int tl, .int mo, .ref aw, .ref aq, .int mn])), (ao, .inl (cI, 4, .inl fo)), (al, .inl (cI, 31, .inl fl))])) 0 0 (cA [(mm, .inr (3, [.int th, .int (nI d), .int (nI r), .int ld, .int pl, .ref ao, .ref al, .int li, .int tl, .int mo, .ref aw, .ref aq, .int mn])), (ao, .inl (cI, 4, .inl fo)), (al, .inl (cI, 31, .inl fl))]) := by
  refine Met.ofW (cc := cX3_fewestPlates) (maxL := 6) (ret := (some .int)) (by decide) rfl ?_
  intro p e s m args below meth c s₁ B hml hv
  obtain ⟨rfl, hP, hK, hD0, hE0⟩ := hv
  have hx := B.exec
  have hb := B.bytes
  have hRt := B.returns
  have hts := atoms_spec (ws := wsX3_fewestPlates) B.pre
  have hown : s.vm.findClass RX3 = some m.cls := findClass_of_methodNamed B.named
  have hlocks := B.notSynchronized
  have hAL : ∀ z9 : Nat, cA [(mm, .inr (3, [.int th, .int (nI d), .int (nI r), .int ld, .int pl, .ref ao, .ref al, .int li, .int tl, .int mo, .ref aw, .ref aq, .int mn])), (ao, .inl (cI, 4, .inl fo)), (al, .inl (cI, 31, .inl fl))] z9 → L0 ≤ z9 := fun z9 ⟨k9, e9, h9⟩ => hD0.2 k9 (z9, e9) h9
  have hD : va_D (cA [(mm, .inr (3, [.int th, .int (nI d), .int (nI r), .int ld, .int pl, .ref ao, .ref al, .int li, .int tl, .int mo, .ref aw, .ref aq, .int mn])), (ao, .inl (cI, 4, .inl fo)), (al, .inl (cI, 31, .inl fl))]) [(mm, .inr (3, [.int th, .int (nI d), .int (nI r), .int ld, .int pl, .ref ao, .ref al, .int li, .int tl, .int mo, .ref aw, .ref aq, .int mn])), (ao, .inl (cI, 4, .inl fo)), (al, .inl (cI, 31, .inl fl))] := ⟨hD0.1, fun k9 z9 h9 => cA_of h9⟩
  generalize hAe : cA [(mm, .inr (3, [.int th, .int (nI d), .int (nI r), .int ld, .int pl, .ref ao, .ref al, .int li, .int tl, .int mo, .ref aw, .ref aq, .int mn])), (ao, .inl (cI, 4, .inl fo)), (al, .inl (cI, 31, .inl fl))] = A at hD hAL ⊢
  have hS : va_S A s.heap s.heap [] := va_S.rf
  have hiX3 : ∀ w ∈ u_ws RX3 TX3 13, w ∈ wsX3_fewestPlates := by decide +kernel
  have hl := lv_entry ([.ref mm, .int u, .int (nI kv), .int (nI kz)]) (n := 6) (Nat.le_of_ble_eq_true rfl)
  rw [lg_entry_eq]
  generalize (lg_sl ([.ref mm, .int u, .int (nI kv), .int (nI kz)]) ++ List.replicate (6 - (lg_sl ([.ref mm, .int u, .int (nI kv), .int (nI kz)])).length) Slot.unset).toArray = ls at hl ⊢
  have hl : lv_has ls 6 [(0, .ref mm), (1, .int u), (2, .int (nI kv)), (3, .int (nI kz))] := hl
  have loop : ∀ (n : Nat) (i : Nat) (tt : Int32) (H : Heap) (locs : List Loc) (ls : Array Slot), i + n = 14 → i ≤ 13 → ((tt = -1 ∧ pnN (fun k => safS fo fl (nI k) u kv kz) (13 - i) i = pnN (fun k => safS fo fl (nI k) u kv kz) 13 0) ∨ (¬ tt = -1 ∧ tt = pnN (fun k => safS fo fl (nI k) u kv kz) 13 0)) → lv_has ls 6 [(5, .int tt), (4, .int pl), (0, .ref mm), (1, .int u), (2, .int (nI kv)), (3, .int (nI kz))] → va_P D vwCl [(mm, .inr (3, [.int th, .int (nI d), .int (nI r), .int ld, .int (nI i), .ref ao, .ref al, .int li, .int tl, .int mo, .ref aw, .ref aq, .int mn])), (ao, .inl (cI, 4, .inl fo)), (al, .inl (cI, 31, .inl fl))] H → va_D A [(mm, .inr (3, [.int th, .int (nI d), .int (nI r), .int ld, .int (nI i), .ref ao, .ref al, .int li, .int tl, .int mo, .ref aw, .ref aq, .int mn])), (ao, .inl (cI, 4, .inl fo)), (al, .inl (cI, 31, .inl fl))] → va_S A s.heap H locs → W p l e (headSpec wsX3_fewestPlates ({ frames := 3, cells := 0, slots := 0, locals := 81 })).room s m ([.ref mm, .int u, .int (nI kv), .int (nI kz)]).toArray below meth c H locs 0 0 (MQ below (cB (some (.int (pnN (fun k => safS fo fl (nI k) u kv kz) 13 0))) (fun H => va_P D vwCl [(mm, .inr (3, [.int th, .int (nI d), .int (nI r), .int ld, .int pl, .ref ao, .ref al, .int li, .int tl, .int mo, .ref aw, .ref aq, .int mn])), (ao, .inl (cI, 4, .inl fo)), (al, .inl (cI, 31, .inl fl))] H) A) ([.ref mm, .int u, .int (nI kv), .int (nI kz)]).toArray s 0 0 A) (F0 m 14 ls []) := by
    intro n
    induction n with
    | zero =>
      intro i tt H locs ls hn hle hG hl hP hD hS
      exact absurd hn (by omega)
    | succ n ih =>
      intro i tt H locs ls hn hle hG hl hP hD hS
      rcases hG with ⟨ht, hG⟩ | ⟨ht, hG⟩
      · refine lv_aload_n hx hb dX3_fewestPlates_14 rfl (lv_at hl 2 rfl) ?_
        refine va_get (D := D) (ci := 3) (v := .int (nI i)) (C := RX3) (T := TX3) (N := 13) hx hb hts hiX3 hown hK hP 0 rfl rfl 4 (by decide) (hts (.fieldLink RX3 46 "CraneReachModel" "plates" "I") (by decide +kernel)) (fun _ h9 => h9) rfl dX3_fewestPlates_15 ?_
        refine lv_bipush (v := 12) hx hb dX3_fewestPlates_18 (by decide) ?_
        refine lv_icmp_gt (tgt := 58) hx hb dX3_fewestPlates_20 (by decide) (fun c_22 => ?_) (fun c_22 => ?_)
        · have hi13 : i = 13 := by
            rcases Nat.lt_or_ge 12 i with z | z
            · omega
            · exact absurd c_22 (Int32.not_lt.mpr (nI_le (b := 12) z (by decide)))
          have hGt : tt = pnN (fun k => safS fo fl (nI k) u kv kz) 13 0 := by rw [ht, ← hG, hi13]; rfl
          refine lv_aload_n hx hb dX3_fewestPlates_58 rfl (lv_at hl 2 rfl) ?_
          refine lv_iload hx hb dX3_fewestPlates_59 (lv_at hl 1 rfl) ?_
          refine va_put (D := D) (ci := 3) (v := .int pl) (ty := .int) (C := RX3) (T := TX3) (N := 13) hx hb hts hiX3 tyX3 tyX3_ok nmX3 hown hK hP hD hS 0 rfl rfl 4 (by decide) (hts (.fieldLink RX3 46 "CraneReachModel" "plates" "I") (by decide +kernel)) (fun _ h9 => h9) rfl (by decide +kernel) rfl rfl (Nat.le_of_ble_eq_true rfl) dX3_fewestPlates_61 (fun H locs hP hD hS => ?_)
          have hP : va_P D vwCl [(mm, .inr (3, [.int th, .int (nI d), .int (nI r), .int ld, .int pl, .ref ao, .ref al, .int li, .int tl, .int mo, .ref aw, .ref aq, .int mn])), (ao, .inl (cI, 4, .inl fo)), (al, .inl (cI, 31, .inl fl))] H := hP
          have hD : va_D A [(mm, .inr (3, [.int th, .int (nI d), .int (nI r), .int ld, .int pl, .ref ao, .ref al, .int li, .int tl, .int mo, .ref aw, .ref aq, .int mn])), (ao, .inl (cI, 4, .inl fo)), (al, .inl (cI, 31, .inl fl))] := hD
          refine lv_iload hx hb dX3_fewestPlates_64 (lv_at hl 0 rfl) ?_
          exact W.iret (v := tt) hx hb hRt (fun t ht hW => ⟨⟨by rw [hGt], by rw [ht]; exact hP⟩, hS.F ht⟩) hS.2.2 dX3_fewestPlates_66
        · have hi12 : i ≤ 12 := by
            rcases Nat.lt_or_ge 12 i with z | z
            · exact absurd (nI_lt (a := 12) z (by omega)) c_22
            · exact z
          refine lv_iload hx hb dX3_fewestPlates_23 (lv_at hl 0 rfl) ?_
          refine lv_iconst (v := -1) hx hb dX3_fewestPlates_25 (by decide) ?_
          refine lv_icmp_ne (tgt := 58) hx hb dX3_fewestPlates_26 (by decide) (fun c_23 => absurd (ht) c_23) (fun _ => ?_)
          refine lv_aload_n hx hb dX3_fewestPlates_29 rfl (lv_at hl 2 rfl) ?_
          refine lv_iload_n hx hb dX3_fewestPlates_30 rfl (lv_at hl 3 rfl) ?_
          refine lv_iload_n hx hb dX3_fewestPlates_31 rfl (lv_at hl 4 rfl) ?_
          refine lv_iload_n hx hb dX3_fewestPlates_32 rfl (lv_at hl 5 rfl) ?_
          have hPc := hP.sub (ws' := [(mm, .inr (3, [.int th, .int (nI d), .int (nI r), .int ld, .int (nI i), .ref ao, .ref al, .int li, .int tl, .int mo, .ref aw, .ref aq, .int mn])), (ao, .inl (cI, 4, .inl fo)), (al, .inl (cI, 31, .inl fl))]) [0, 1, 2] rfl
          have hDc : va_D (fun q : Nat => L0 ≤ q) [(mm, .inr (3, [.int th, .int (nI d), .int (nI r), .int ld, .int (nI i), .ref ao, .ref al, .int li, .int tl, .int mo, .ref aw, .ref aq, .int mn])), (ao, .inl (cI, 4, .inl fo)), (al, .inl (cI, 31, .inl fl))] := (hD.sub (ws' := [(mm, .inr (3, [.int th, .int (nI d), .int (nI r), .int ld, .int (nI i), .ref ao, .ref al, .int li, .int tl, .int mo, .ref aw, .ref aq, .int mn])), (ao, .inl (cI, 4, .inl fo)), (al, .inl (cI, 31, .inl fl))]) [0, 1, 2] (by decide) rfl).weaken (fun _ z9 _ h9 => hAL _ h9)
          have hKc := hK.sub (tys' := [(cI, .int)]) [0] rfl
          refine c_callR (va_runV (As := [.int u, .int (nI kv), .int (nI kz)]) (rest := []) ⟨hx, hb, hml, hown, hts⟩ (q_isSafe l D L0 cI mm ao al aw aq d r th ld (nI i) li tl mo mn fo fl kv kz u hkv hkz) (cwV 3 hts gX3_fewestPlates_X3_isSafe rfl rfl rfl (by decide +kernel) ⟨Nat.le_of_ble_eq_true rfl, Nat.le_of_ble_eq_true rfl⟩) ⟨cP_blind, va_recv hKc hPc (ci := 3) (q0 := 0) rfl rfl, cP_of hPc hKc hDc (kE_at hE0 hAL hS)⟩ rfl rfl hl.1 rfl (lv_room (Nat.le_of_ble_eq_true rfl)) dX3_fewestPlates_33 ⟨Nat.le_of_ble_eq_true rfl, Nat.le_of_ble_eq_true rfl⟩) ?_
          show W _ _ _ _ _ _ _ _ _ _ _ _ _ _ _ (F0 m 36 ls [.int (bI (safS fo fl (nI i) u kv kz))])
          obtain ⟨b_24, hbv_25⟩ : ∃ z9 : Bool, z9 = safS fo fl (nI i) u kv kz := ⟨_, rfl⟩
          refine c_top (show (bI (safS fo fl (nI i) u kv kz)) = bI b_24 from by rw [hbv_25]) ?_
          refine lv_if_eq (tgt := 45) hx hb dX3_fewestPlates_36 (by decide) (fun c_26 => ?_) (fun c_26 => ?_)
          · have hs : safS fo fl (nI i) u kv kz = false := by rw [← hbv_25]; cases b_24 with | false => rfl | true => exact absurd c_26 (by decide)
            refine lv_aload_n hx hb dX3_fewestPlates_45 rfl (lv_at hl 2 rfl) ?_
            refine lv_dup hx hb dX3_fewestPlates_46 rfl ?_
            refine va_get (D := D) (ci := 3) (v := .int (nI i)) (C := RX3) (T := TX3) (N := 13) hx hb hts hiX3 hown hK hP 0 rfl rfl 4 (by decide) (hts (.fieldLink RX3 46 "CraneReachModel" "plates" "I") (by decide +kernel)) (fun _ h9 => h9) rfl dX3_fewestPlates_47 ?_
            refine lv_iconst (v := 1) hx hb dX3_fewestPlates_50 (by decide) ?_
            refine lv_iadd hx hb dX3_fewestPlates_51 ?_
            refine c_top (show ((nI i) + 1) = nI (i + 1) from nI_1 i) ?_
            refine va_put (D := D) (ci := 3) (v := .int (nI (i + 1))) (ty := .int) (C := RX3) (T := TX3) (N := 13) hx hb hts hiX3 tyX3 tyX3_ok nmX3 hown hK hP hD hS 0 rfl rfl 4 (by decide) (hts (.fieldLink RX3 46 "CraneReachModel" "plates" "I") (by decide +kernel)) (fun _ h9 => h9) rfl (by decide +kernel) rfl rfl (Nat.le_of_ble_eq_true rfl) dX3_fewestPlates_52 (fun H locs hP hD hS => ?_)
            have hP : va_P D vwCl [(mm, .inr (3, [.int th, .int (nI d), .int (nI r), .int ld, .int (nI (i + 1)), .ref ao, .ref al, .int li, .int tl, .int mo, .ref aw, .ref aq, .int mn])), (ao, .inl (cI, 4, .inl fo)), (al, .inl (cI, 31, .inl fl))] H := hP
            have hD : va_D A [(mm, .inr (3, [.int th, .int (nI d), .int (nI r), .int ld, .int (nI (i + 1)), .ref ao, .ref al, .int li, .int tl, .int mo, .ref aw, .ref aq, .int mn])), (ao, .inl (cI, 4, .inl fo)), (al, .inl (cI, 31, .inl fl))] := hD
            refine lv_goto (tgt := 14) hx hb dX3_fewestPlates_55 (by decide) ?_
            exact ih (i + 1) _ _ _ _ (by omega) (by omega) (Or.inl ⟨ht, by rw [← hG, show 13 - i = (13 - (i + 1)) + 1 by omega, pnN, if_neg (by rw [hs]; decide)]⟩) (lv_sub hl [0, 1, 2, 3, 4, 5] rfl) hP hD hS
          · have hs : safS fo fl (nI i) u kv kz = true := by rw [← hbv_25]; cases b_24 with | true => rfl | false => exact absurd rfl c_26
            refine lv_aload_n hx hb dX3_fewestPlates_39 rfl (lv_at hl 2 rfl) ?_
            refine va_get (D := D) (ci := 3) (v := .int (nI i)) (C := RX3) (T := TX3) (N := 13) hx hb hts hiX3 hown hK hP 0 rfl rfl 4 (by decide) (hts (.fieldLink RX3 46 "CraneReachModel" "plates" "I") (by decide +kernel)) (fun _ h9 => h9) rfl dX3_fewestPlates_40 ?_
            refine lv_istore (lv' := [(5, .int (nI i)), (4, .int pl), (0, .ref mm), (1, .int u), (2, .int (nI kv)), (3, .int (nI kz))]) hx hb dX3_fewestPlates_43 hl (by decide) rfl (fun ls hl => ?_)
            refine lv_aload_n hx hb dX3_fewestPlates_45 rfl (lv_at hl 2 rfl) ?_
            refine lv_dup hx hb dX3_fewestPlates_46 rfl ?_
            refine va_get (D := D) (ci := 3) (v := .int (nI i)) (C := RX3) (T := TX3) (N := 13) hx hb hts hiX3 hown hK hP 0 rfl rfl 4 (by decide) (hts (.fieldLink RX3 46 "CraneReachModel" "plates" "I") (by decide +kernel)) (fun _ h9 => h9) rfl dX3_fewestPlates_47 ?_
            refine lv_iconst (v := 1) hx hb dX3_fewestPlates_50 (by decide) ?_
            refine lv_iadd hx hb dX3_fewestPlates_51 ?_
            refine c_top (show ((nI i) + 1) = nI (i + 1) from nI_1 i) ?_
            refine va_put (D := D) (ci := 3) (v := .int (nI (i + 1))) (ty := .int) (C := RX3) (T := TX3) (N := 13) hx hb hts hiX3 tyX3 tyX3_ok nmX3 hown hK hP hD hS 0 rfl rfl 4 (by decide) (hts (.fieldLink RX3 46 "CraneReachModel" "plates" "I") (by decide +kernel)) (fun _ h9 => h9) rfl (by decide +kernel) rfl rfl (Nat.le_of_ble_eq_true rfl) dX3_fewestPlates_52 (fun H locs hP hD hS => ?_)
            have hP : va_P D vwCl [(mm, .inr (3, [.int th, .int (nI d), .int (nI r), .int ld, .int (nI (i + 1)), .ref ao, .ref al, .int li, .int tl, .int mo, .ref aw, .ref aq, .int mn])), (ao, .inl (cI, 4, .inl fo)), (al, .inl (cI, 31, .inl fl))] H := hP
            have hD : va_D A [(mm, .inr (3, [.int th, .int (nI d), .int (nI r), .int ld, .int (nI (i + 1)), .ref ao, .ref al, .int li, .int tl, .int mo, .ref aw, .ref aq, .int mn])), (ao, .inl (cI, 4, .inl fo)), (al, .inl (cI, 31, .inl fl))] := hD
            refine lv_goto (tgt := 14) hx hb dX3_fewestPlates_55 (by decide) ?_
            exact ih (i + 1) _ _ _ _ (by omega) (by omega) (Or.inr ⟨nI_nm1 (by omega), by rw [← hG, show 13 - i = (13 - (i + 1)) + 1 by omega, pnN, if_pos hs]⟩) (lv_sub hl [0, 1, 2, 3, 4, 5] rfl) hP hD hS
      · refine lv_aload_n hx hb dX3_fewestPlates_14 rfl (lv_at hl 2 rfl) ?_
        refine va_get (D := D) (ci := 3) (v := .int (nI i)) (C := RX3) (T := TX3) (N := 13) hx hb hts hiX3 hown hK hP 0 rfl rfl 4 (by decide) (hts (.fieldLink RX3 46 "CraneReachModel" "plates" "I") (by decide +kernel)) (fun _ h9 => h9) rfl dX3_fewestPlates_15 ?_
        refine lv_bipush (v := 12) hx hb dX3_fewestPlates_18 (by decide) ?_
        refine lv_icmp_gt (tgt := 58) hx hb dX3_fewestPlates_20 (by decide) (fun c_27 => ?_) (fun c_27 => ?_)
        · refine lv_aload_n hx hb dX3_fewestPlates_58 rfl (lv_at hl 2 rfl) ?_
          refine lv_iload hx hb dX3_fewestPlates_59 (lv_at hl 1 rfl) ?_
          refine va_put (D := D) (ci := 3) (v := .int pl) (ty := .int) (C := RX3) (T := TX3) (N := 13) hx hb hts hiX3 tyX3 tyX3_ok nmX3 hown hK hP hD hS 0 rfl rfl 4 (by decide) (hts (.fieldLink RX3 46 "CraneReachModel" "plates" "I") (by decide +kernel)) (fun _ h9 => h9) rfl (by decide +kernel) rfl rfl (Nat.le_of_ble_eq_true rfl) dX3_fewestPlates_61 (fun H locs hP hD hS => ?_)
          have hP : va_P D vwCl [(mm, .inr (3, [.int th, .int (nI d), .int (nI r), .int ld, .int pl, .ref ao, .ref al, .int li, .int tl, .int mo, .ref aw, .ref aq, .int mn])), (ao, .inl (cI, 4, .inl fo)), (al, .inl (cI, 31, .inl fl))] H := hP
          have hD : va_D A [(mm, .inr (3, [.int th, .int (nI d), .int (nI r), .int ld, .int pl, .ref ao, .ref al, .int li, .int tl, .int mo, .ref aw, .ref aq, .int mn])), (ao, .inl (cI, 4, .inl fo)), (al, .inl (cI, 31, .inl fl))] := hD
          refine lv_iload hx hb dX3_fewestPlates_64 (lv_at hl 0 rfl) ?_
          exact W.iret (v := tt) hx hb hRt (fun t ht hW => ⟨⟨by rw [hG], by rw [ht]; exact hP⟩, hS.F ht⟩) hS.2.2 dX3_fewestPlates_66
        · refine lv_iload hx hb dX3_fewestPlates_23 (lv_at hl 0 rfl) ?_
          refine lv_iconst (v := -1) hx hb dX3_fewestPlates_25 (by decide) ?_
          refine lv_icmp_ne (tgt := 58) hx hb dX3_fewestPlates_26 (by decide) (fun _ => ?_) (fun c_28 => absurd c_28 (ht))
          refine lv_aload_n hx hb dX3_fewestPlates_58 rfl (lv_at hl 2 rfl) ?_
          refine lv_iload hx hb dX3_fewestPlates_59 (lv_at hl 1 rfl) ?_
          refine va_put (D := D) (ci := 3) (v := .int pl) (ty := .int) (C := RX3) (T := TX3) (N := 13) hx hb hts hiX3 tyX3 tyX3_ok nmX3 hown hK hP hD hS 0 rfl rfl 4 (by decide) (hts (.fieldLink RX3 46 "CraneReachModel" "plates" "I") (by decide +kernel)) (fun _ h9 => h9) rfl (by decide +kernel) rfl rfl (Nat.le_of_ble_eq_true rfl) dX3_fewestPlates_61 (fun H locs hP hD hS => ?_)
          have hP : va_P D vwCl [(mm, .inr (3, [.int th, .int (nI d), .int (nI r), .int ld, .int pl, .ref ao, .ref al, .int li, .int tl, .int mo, .ref aw, .ref aq, .int mn])), (ao, .inl (cI, 4, .inl fo)), (al, .inl (cI, 31, .inl fl))] H := hP
          have hD : va_D A [(mm, .inr (3, [.int th, .int (nI d), .int (nI r), .int ld, .int pl, .ref ao, .ref al, .int li, .int tl, .int mo, .ref aw, .ref aq, .int mn])), (ao, .inl (cI, 4, .inl fo)), (al, .inl (cI, 31, .inl fl))] := hD
          refine lv_iload hx hb dX3_fewestPlates_64 (lv_at hl 0 rfl) ?_
          exact W.iret (v := tt) hx hb hRt (fun t ht hW => ⟨⟨by rw [hG], by rw [ht]; exact hP⟩, hS.F ht⟩) hS.2.2 dX3_fewestPlates_66
  refine lv_aload_n hx hb dX3_fewestPlates_0 rfl (lv_at hl 0 rfl) ?_
  refine va_get (D := D) (ci := 3) (v := .int pl) (C := RX3) (T := TX3) (N := 13) hx hb hts hiX3 hown hK hP 0 rfl rfl 4 (by decide) (hts (.fieldLink RX3 46 "CraneReachModel" "plates" "I") (by decide +kernel)) (fun _ h9 => h9) rfl dX3_fewestPlates_1 ?_
  refine lv_istore (lv' := [(4, .int pl), (0, .ref mm), (1, .int u), (2, .int (nI kv)), (3, .int (nI kz))]) hx hb dX3_fewestPlates_4 hl (by decide) rfl (fun ls hl => ?_)
  refine lv_iconst (v := -1) hx hb dX3_fewestPlates_6 (by decide) ?_
  refine lv_istore (lv' := [(5, .int (-1)), (4, .int pl), (0, .ref mm), (1, .int u), (2, .int (nI kv)), (3, .int (nI kz))]) hx hb dX3_fewestPlates_7 hl (by decide) rfl (fun ls hl => ?_)
  refine lv_aload_n hx hb dX3_fewestPlates_9 rfl (lv_at hl 2 rfl) ?_
  refine lv_iconst (v := 0) hx hb dX3_fewestPlates_10 (by decide) ?_
  refine c_top (show (0) = nI 0 from rfl) ?_
  refine va_put (D := D) (ci := 3) (v := .int (nI 0)) (ty := .int) (C := RX3) (T := TX3) (N := 13) hx hb hts hiX3 tyX3 tyX3_ok nmX3 hown hK hP hD hS 0 rfl rfl 4 (by decide) (hts (.fieldLink RX3 46 "CraneReachModel" "plates" "I") (by decide +kernel)) (fun _ h9 => h9) rfl (by decide +kernel) rfl rfl (Nat.le_of_ble_eq_true rfl) dX3_fewestPlates_11 (fun H locs hP hD hS => ?_)
  have hP : va_P D vwCl [(mm, .inr (3, [.int th, .int (nI d), .int (nI r), .int ld, .int (nI 0), .ref ao, .ref al, .int li, .int tl, .int mo, .ref aw, .ref aq, .int mn])), (ao, .inl (cI, 4, .inl fo)), (al, .inl (cI, 31, .inl fl))] H := hP
  have hD : va_D A [(mm, .inr (3, [.int th, .int (nI d), .int (nI r), .int ld, .int (nI 0), .ref ao, .ref al, .int li, .int tl, .int mo, .ref aw, .ref aq, .int mn])), (ao, .inl (cI, 4, .inl fo)), (al, .inl (cI, 31, .inl fl))] := hD
  exact loop 14 0 _ _ _ _ (by omega) (by omega) (Or.inl ⟨rfl, rfl⟩) (lv_sub hl [0, 1, 2, 3, 4, 5] rfl) hP hD hS
set_option maxHeartbeats 4000000 in
set_option maxRecDepth 100000 in
/-- platesNeeded -/
theorem q_platesNeeded (l : Launch) (D : va_G) (L0 : Nat) (cI : ClassId) (mm ao al aw aq d r : Nat) (th ld pl li tl mo mn : Int32) (fo fl : Nat → Int32) (u v z : Int32) : Met l yX3_platesNeeded wsX3_platesNeeded ({ frames := 4, cells := 0, slots := 0, locals := 106 }) (cP L0 D [(cI, .int)] [(mm, .inr (3, [.int th, .int (nI d), .int (nI r), .int ld, .int pl, .ref ao, .ref al, .int li, .int tl, .int mo, .ref aw, .ref aq, .int mn])), (ao, .inl (cI, 4, .inl fo)), (al, .inl (cI, 31, .inl fl))] [.ref mm, .int u, .int v, .int z]) (cB (some (.int (if k2 (inR v 0 7) (inR u 0 60 ∧ inR z 3 30) = 0 then pnN (fun k => safS fo fl (nI k) u v.toNatClampNeg z.toNatClampNeg) 13 0 else 0))) (fun H => va_P D vwCl [(mm, .inr (3, [.int (k2 (inR v 0 7) (inR u 0 60 ∧ inR z 3 30)), .int (nI d), .int (nI r), .int ld, .int pl, .ref ao, .ref al, .int li, .int tl, .int mo, .ref aw, .ref aq, .int mn])), (ao, .inl (cI, 4, .inl fo)), (al, .inl (cI, 31, .inl fl))] H) (cA [(mm, .inr (3, [.int th, .int (nI d), .int (nI r), .int ld, .int pl, .ref ao, .ref al, .int li, .int tl, .int mo, .ref aw, .ref aq, .int mn])), (ao, .inl (cI, 4, .inl fo)), (al, .inl (cI, 31, .inl fl))])) 0 0 (cA [(mm, .inr (3, [.int th, .int (nI d), .int (nI r), .int ld, .int pl, .ref ao, .ref al, .int li, .int tl, .int mo, .ref aw, .ref aq, .int mn])), (ao, .inl (cI, 4, .inl fo)), (al, .inl (cI, 31, .inl fl))]) := by
  refine Met.ofW (cc := cX3_platesNeeded) (maxL := 4) (ret := (some .int)) (by decide) rfl ?_
  intro p e s m args below meth c s₁ B hml hv
  obtain ⟨rfl, hP, hK, hD0, hE0⟩ := hv
  have hx := B.exec
  have hb := B.bytes
  have hRt := B.returns
  have hts := atoms_spec (ws := wsX3_platesNeeded) B.pre
  have hown : s.vm.findClass RX3 = some m.cls := findClass_of_methodNamed B.named
  have hlocks := B.notSynchronized
  have hAL : ∀ z9 : Nat, cA [(mm, .inr (3, [.int th, .int (nI d), .int (nI r), .int ld, .int pl, .ref ao, .ref al, .int li, .int tl, .int mo, .ref aw, .ref aq, .int mn])), (ao, .inl (cI, 4, .inl fo)), (al, .inl (cI, 31, .inl fl))] z9 → L0 ≤ z9 := fun z9 ⟨k9, e9, h9⟩ => hD0.2 k9 (z9, e9) h9
  have hD : va_D (cA [(mm, .inr (3, [.int th, .int (nI d), .int (nI r), .int ld, .int pl, .ref ao, .ref al, .int li, .int tl, .int mo, .ref aw, .ref aq, .int mn])), (ao, .inl (cI, 4, .inl fo)), (al, .inl (cI, 31, .inl fl))]) [(mm, .inr (3, [.int th, .int (nI d), .int (nI r), .int ld, .int pl, .ref ao, .ref al, .int li, .int tl, .int mo, .ref aw, .ref aq, .int mn])), (ao, .inl (cI, 4, .inl fo)), (al, .inl (cI, 31, .inl fl))] := ⟨hD0.1, fun k9 z9 h9 => cA_of h9⟩
  generalize hAe : cA [(mm, .inr (3, [.int th, .int (nI d), .int (nI r), .int ld, .int pl, .ref ao, .ref al, .int li, .int tl, .int mo, .ref aw, .ref aq, .int mn])), (ao, .inl (cI, 4, .inl fo)), (al, .inl (cI, 31, .inl fl))] = A at hD hAL ⊢
  have hS : va_S A s.heap s.heap [] := va_S.rf
  have hiX3 : ∀ w ∈ u_ws RX3 TX3 13, w ∈ wsX3_platesNeeded := by decide +kernel
  have hl := lv_entry ([.ref mm, .int u, .int v, .int z]) (n := 4) (Nat.le_of_ble_eq_true rfl)
  rw [lg_entry_eq]
  generalize (lg_sl ([.ref mm, .int u, .int v, .int z]) ++ List.replicate (4 - (lg_sl ([.ref mm, .int u, .int v, .int z])).length) Slot.unset).toArray = ls at hl ⊢
  have hl : lv_has ls 4 [(0, .ref mm), (1, .int u), (2, .int v), (3, .int z)] := hl
  refine lv_aload_n hx hb dX3_platesNeeded_0 rfl (lv_at hl 0 rfl) ?_
  refine lv_iconst (v := 0) hx hb dX3_platesNeeded_1 (by decide) ?_
  refine va_put (D := D) (ci := 3) (v := .int 0) (ty := .int) (C := RX3) (T := TX3) (N := 13) hx hb hts hiX3 tyX3 tyX3_ok nmX3 hown hK hP hD hS 0 rfl rfl 0 (by decide) (hts (.fieldLink RX3 26 "CraneReachModel" "thrown" "I") (by decide +kernel)) (fun _ h9 => h9) rfl (by decide +kernel) rfl rfl (Nat.le_of_ble_eq_true rfl) dX3_platesNeeded_2 (fun H locs hP hD hS => ?_)
  have hP : va_P D vwCl [(mm, .inr (3, [.int 0, .int (nI d), .int (nI r), .int ld, .int pl, .ref ao, .ref al, .int li, .int tl, .int mo, .ref aw, .ref aq, .int mn])), (ao, .inl (cI, 4, .inl fo)), (al, .inl (cI, 31, .inl fl))] H := hP
  have hD : va_D A [(mm, .inr (3, [.int 0, .int (nI d), .int (nI r), .int ld, .int pl, .ref ao, .ref al, .int li, .int tl, .int mo, .ref aw, .ref aq, .int mn])), (ao, .inl (cI, 4, .inl fo)), (al, .inl (cI, 31, .inl fl))] := hD
  refine lv_iload_n hx hb dX3_platesNeeded_5 rfl (lv_at hl 2 rfl) ?_
  have hPc := hP.sub (ws' := []) [] rfl
  have hDc : va_D (fun q : Nat => L0 ≤ q) [] := (hD.sub (ws' := []) [] (by decide) rfl).weaken (fun _ z9 _ h9 => hAL _ h9)
  have hKc := hK.sub (tys' := []) [] rfl
  refine c_callR (va_runS (As := [.int v]) (rest := []) ⟨hx, hb, hml, hown, hts⟩ (q_isDirection l D L0 v) (va_cwS 1 hts gX3_platesNeeded_X3_isDirection rfl rfl rfl (by decide +kernel) ⟨Nat.le_of_ble_eq_true rfl, Nat.le_of_ble_eq_true rfl⟩) ⟨cP_blind, cP_of hPc hKc hDc (kE_at hE0 hAL hS)⟩ rfl rfl hl.1 rfl (lv_room (Nat.le_of_ble_eq_true rfl)) dX3_platesNeeded_6 ⟨Nat.le_of_ble_eq_true rfl, Nat.le_of_ble_eq_true rfl⟩) ?_
  show W _ _ _ _ _ _ _ _ _ _ _ _ _ _ _ (F0 m 9 ls [.int (bI (decide (0 ≤ v) && decide (v ≤ 7)))])
  obtain ⟨b_29, hbv_30⟩ : ∃ z9 : Bool, z9 = (decide (0 ≤ v) && decide (v ≤ 7)) := ⟨_, rfl⟩
  refine c_top (show (bI (decide (0 ≤ v) && decide (v ≤ 7))) = bI b_29 from by rw [hbv_30]) ?_
  refine lv_if_ne (tgt := 18) hx hb dX3_platesNeeded_9 (by decide) (fun c_31 => ?_) (fun c_31 => ?_)
  · have hp1 : inR v 0 7 := by cases b_29 with | true => simpa using hbv_30.symm | false => exact absurd rfl c_31
    refine lv_iload_n hx hb dX3_platesNeeded_18 rfl (lv_at hl 1 rfl) ?_
    have hPc := hP.sub (ws' := []) [] rfl
    have hDc : va_D (fun q : Nat => L0 ≤ q) [] := (hD.sub (ws' := []) [] (by decide) rfl).weaken (fun _ z9 _ h9 => hAL _ h9)
    have hKc := hK.sub (tys' := []) [] rfl
    refine c_callR (va_runS (As := [.int u]) (rest := []) ⟨hx, hb, hml, hown, hts⟩ (q_isLoad l D L0 u) (va_cwS 1 hts gX3_platesNeeded_X3_isLoad rfl rfl rfl (by decide +kernel) ⟨Nat.le_of_ble_eq_true rfl, Nat.le_of_ble_eq_true rfl⟩) ⟨cP_blind, cP_of hPc hKc hDc (kE_at hE0 hAL hS)⟩ rfl rfl hl.1 rfl (lv_room (Nat.le_of_ble_eq_true rfl)) dX3_platesNeeded_19 ⟨Nat.le_of_ble_eq_true rfl, Nat.le_of_ble_eq_true rfl⟩) ?_
    show W _ _ _ _ _ _ _ _ _ _ _ _ _ _ _ (F0 m 22 ls [.int (bI (decide (0 ≤ u) && decide (u ≤ 60)))])
    obtain ⟨b_32, hbv_33⟩ : ∃ z9 : Bool, z9 = (decide (0 ≤ u) && decide (u ≤ 60)) := ⟨_, rfl⟩
    refine c_top (show (bI (decide (0 ≤ u) && decide (u ≤ 60))) = bI b_32 from by rw [hbv_33]) ?_
    refine lv_if_eq (tgt := 42) hx hb dX3_platesNeeded_22 (by decide) (fun c_34 => ?_) (fun c_34 => ?_)
    · have hn : ¬ (inR u 0 60) := fun hp => absurd c_34 (by rw [hbv_33]; simp [hp.1, hp.2, bI])
      refine lv_aload_n hx hb dX3_platesNeeded_42 rfl (lv_at hl 0 rfl) ?_
      refine lv_iconst (v := 2) hx hb dX3_platesNeeded_43 (by decide) ?_
      have hPc := hP.sub (ws' := [(mm, .inr (3, [.int 0, .int (nI d), .int (nI r), .int ld, .int pl, .ref ao, .ref al, .int li, .int tl, .int mo, .ref aw, .ref aq, .int mn]))]) [0] rfl
      have hDc : va_D (fun q : Nat => L0 ≤ q) [(mm, .inr (3, [.int 0, .int (nI d), .int (nI r), .int ld, .int pl, .ref ao, .ref al, .int li, .int tl, .int mo, .ref aw, .ref aq, .int mn]))] := (hD.sub (ws' := [(mm, .inr (3, [.int 0, .int (nI d), .int (nI r), .int ld, .int pl, .ref ao, .ref al, .int li, .int tl, .int mo, .ref aw, .ref aq, .int mn]))]) [0] (by decide) rfl).weaken (fun _ z9 _ h9 => hAL _ h9)
      have hKc := hK.sub (tys' := []) [] rfl
      refine c_callB (va_runV (As := [.int 2]) (rest := []) ⟨hx, hb, hml, hown, hts⟩ (q_no l D L0 mm ao al aw aq d r 0 ld pl li tl mo mn 2) (cwV 1 hts gX3_platesNeeded_X3_no rfl rfl rfl (by decide +kernel) ⟨Nat.le_of_ble_eq_true rfl, Nat.le_of_ble_eq_true rfl⟩) ⟨cP_blind, va_recv hKc hPc (ci := 3) (q0 := 0) rfl rfl, cP_of hPc hKc hDc (kE_at hE0 hAL hS)⟩ rfl rfl hl.1 rfl (lv_room (Nat.le_of_ble_eq_true rfl)) dX3_platesNeeded_44 ⟨Nat.le_of_ble_eq_true rfl, Nat.le_of_ble_eq_true rfl⟩) hS (fun z9 _ ⟨k9, e9, h9⟩ => (hD.sub (ws' := [(mm, .inr (3, [.int 0, .int (nI d), .int (nI r), .int ld, .int pl, .ref ao, .ref al, .int li, .int tl, .int mo, .ref aw, .ref aq, .int mn]))]) [0] (by decide) rfl).2 k9 (z9, e9) h9) (fun z9 ⟨k9, e9, h9⟩ => (hD.sub (ws' := [(mm, .inr (3, [.int 0, .int (nI d), .int (nI r), .int ld, .int pl, .ref ao, .ref al, .int li, .int tl, .int mo, .ref aw, .ref aq, .int mn]))]) [0] (by decide) rfl).2 k9 (z9, e9) h9) (fun H1 locs hB hz1 hk1 hS => ?_)
      obtain ⟨hP, hD⟩ := c_join (ws' := [(mm, .inr (3, [.int 2, .int (nI d), .int (nI r), .int ld, .int pl, .ref ao, .ref al, .int li, .int tl, .int mo, .ref aw, .ref aq, .int mn])), (ao, .inl (cI, 4, .inl fo)), (al, .inl (cI, 31, .inl fl))]) (wr := [(ao, .inl (cI, 4, .inl fo)), (al, .inl (cI, 31, .inl fl))]) (w1 := [(mm, .inr (3, [.int 2, .int (nI d), .int (nI r), .int ld, .int pl, .ref ao, .ref al, .int li, .int tl, .int mo, .ref aw, .ref aq, .int mn]))]) hP hD [0] [1, 2] [2, 0, 1] rfl rfl (by decide) (by decide) hk1 hB rfl rfl rfl (by decide)
      generalize H1 = H at hP hS ⊢
      show W _ _ _ _ _ _ _ _ _ _ _ _ _ _ _ (F0 m 47 ls [.int 0])
      have hK1 : k2 (inR v 0 7) (inR u 0 60 ∧ inR z 3 30) = 2 := k2_n2 hp1 (fun q => hn q.1)
      have hKn : ¬ k2 (inR v 0 7) (inR u 0 60 ∧ inR z 3 30) = 0 := by rw [hK1]; decide
      exact W.iret (v := 0) hx hb hRt (fun t ht hW => ⟨⟨by simp only [if_neg hKn], by rw [ht]; exact (by rw [hK1]; exact hP)⟩, hS.F ht⟩) hS.2.2 dX3_platesNeeded_47
    · have hp2 : inR u 0 60 := by cases b_32 with | true => simpa using hbv_33.symm | false => exact absurd rfl c_34
      refine lv_iload_n hx hb dX3_platesNeeded_25 rfl (lv_at hl 3 rfl) ?_
      have hPc := hP.sub (ws' := []) [] rfl
      have hDc : va_D (fun q : Nat => L0 ≤ q) [] := (hD.sub (ws' := []) [] (by decide) rfl).weaken (fun _ z9 _ h9 => hAL _ h9)
      have hKc := hK.sub (tys' := []) [] rfl
      refine c_callR (va_runS (As := [.int z]) (rest := []) ⟨hx, hb, hml, hown, hts⟩ (q_isReach l D L0 z) (va_cwS 1 hts gX3_platesNeeded_X3_isReach rfl rfl rfl (by decide +kernel) ⟨Nat.le_of_ble_eq_true rfl, Nat.le_of_ble_eq_true rfl⟩) ⟨cP_blind, cP_of hPc hKc hDc (kE_at hE0 hAL hS)⟩ rfl rfl hl.1 rfl (lv_room (Nat.le_of_ble_eq_true rfl)) dX3_platesNeeded_26 ⟨Nat.le_of_ble_eq_true rfl, Nat.le_of_ble_eq_true rfl⟩) ?_
      show W _ _ _ _ _ _ _ _ _ _ _ _ _ _ _ (F0 m 29 ls [.int (bI (decide (3 ≤ z) && decide (z ≤ 30)))])
      obtain ⟨b_35, hbv_36⟩ : ∃ z9 : Bool, z9 = (decide (3 ≤ z) && decide (z ≤ 30)) := ⟨_, rfl⟩
      refine c_top (show (bI (decide (3 ≤ z) && decide (z ≤ 30))) = bI b_35 from by rw [hbv_36]) ?_
      refine lv_if_eq (tgt := 42) hx hb dX3_platesNeeded_29 (by decide) (fun c_37 => ?_) (fun c_37 => ?_)
      · have hn : ¬ (inR z 3 30) := fun hp => absurd c_37 (by rw [hbv_36]; simp [hp.1, hp.2, bI])
        refine lv_aload_n hx hb dX3_platesNeeded_42 rfl (lv_at hl 0 rfl) ?_
        refine lv_iconst (v := 2) hx hb dX3_platesNeeded_43 (by decide) ?_
        have hPc := hP.sub (ws' := [(mm, .inr (3, [.int 0, .int (nI d), .int (nI r), .int ld, .int pl, .ref ao, .ref al, .int li, .int tl, .int mo, .ref aw, .ref aq, .int mn]))]) [0] rfl
        have hDc : va_D (fun q : Nat => L0 ≤ q) [(mm, .inr (3, [.int 0, .int (nI d), .int (nI r), .int ld, .int pl, .ref ao, .ref al, .int li, .int tl, .int mo, .ref aw, .ref aq, .int mn]))] := (hD.sub (ws' := [(mm, .inr (3, [.int 0, .int (nI d), .int (nI r), .int ld, .int pl, .ref ao, .ref al, .int li, .int tl, .int mo, .ref aw, .ref aq, .int mn]))]) [0] (by decide) rfl).weaken (fun _ z9 _ h9 => hAL _ h9)
        have hKc := hK.sub (tys' := []) [] rfl
        refine c_callB (va_runV (As := [.int 2]) (rest := []) ⟨hx, hb, hml, hown, hts⟩ (q_no l D L0 mm ao al aw aq d r 0 ld pl li tl mo mn 2) (cwV 1 hts gX3_platesNeeded_X3_no rfl rfl rfl (by decide +kernel) ⟨Nat.le_of_ble_eq_true rfl, Nat.le_of_ble_eq_true rfl⟩) ⟨cP_blind, va_recv hKc hPc (ci := 3) (q0 := 0) rfl rfl, cP_of hPc hKc hDc (kE_at hE0 hAL hS)⟩ rfl rfl hl.1 rfl (lv_room (Nat.le_of_ble_eq_true rfl)) dX3_platesNeeded_44 ⟨Nat.le_of_ble_eq_true rfl, Nat.le_of_ble_eq_true rfl⟩) hS (fun z9 _ ⟨k9, e9, h9⟩ => (hD.sub (ws' := [(mm, .inr (3, [.int 0, .int (nI d), .int (nI r), .int ld, .int pl, .ref ao, .ref al, .int li, .int tl, .int mo, .ref aw, .ref aq, .int mn]))]) [0] (by decide) rfl).2 k9 (z9, e9) h9) (fun z9 ⟨k9, e9, h9⟩ => (hD.sub (ws' := [(mm, .inr (3, [.int 0, .int (nI d), .int (nI r), .int ld, .int pl, .ref ao, .ref al, .int li, .int tl, .int mo, .ref aw, .ref aq, .int mn]))]) [0] (by decide) rfl).2 k9 (z9, e9) h9) (fun H1 locs hB hz1 hk1 hS => ?_)
        obtain ⟨hP, hD⟩ := c_join (ws' := [(mm, .inr (3, [.int 2, .int (nI d), .int (nI r), .int ld, .int pl, .ref ao, .ref al, .int li, .int tl, .int mo, .ref aw, .ref aq, .int mn])), (ao, .inl (cI, 4, .inl fo)), (al, .inl (cI, 31, .inl fl))]) (wr := [(ao, .inl (cI, 4, .inl fo)), (al, .inl (cI, 31, .inl fl))]) (w1 := [(mm, .inr (3, [.int 2, .int (nI d), .int (nI r), .int ld, .int pl, .ref ao, .ref al, .int li, .int tl, .int mo, .ref aw, .ref aq, .int mn]))]) hP hD [0] [1, 2] [2, 0, 1] rfl rfl (by decide) (by decide) hk1 hB rfl rfl rfl (by decide)
        generalize H1 = H at hP hS ⊢
        show W _ _ _ _ _ _ _ _ _ _ _ _ _ _ _ (F0 m 47 ls [.int 0])
        have hK1 : k2 (inR v 0 7) (inR u 0 60 ∧ inR z 3 30) = 2 := k2_n2 hp1 (fun q => hn q.2)
        have hKn : ¬ k2 (inR v 0 7) (inR u 0 60 ∧ inR z 3 30) = 0 := by rw [hK1]; decide
        exact W.iret (v := 0) hx hb hRt (fun t ht hW => ⟨⟨by simp only [if_neg hKn], by rw [ht]; exact (by rw [hK1]; exact hP)⟩, hS.F ht⟩) hS.2.2 dX3_platesNeeded_47
      · have hp3 : inR z 3 30 := by cases b_35 with | true => simpa using hbv_36.symm | false => exact absurd rfl c_37
        obtain ⟨kv, hkv, hv⟩ := inR_nI (n := 7) (by decide) hp1
        have hl : lv_has ls 4 [(0, .ref mm), (1, .int u), (2, .int (nI kv)), (3, .int z)] := (show v = nI kv from hv) ▸ hl
        obtain ⟨kz, hkz, hz⟩ := inR_n3 (n := 30) (by decide) hp3
        have hl : lv_has ls 4 [(0, .ref mm), (1, .int u), (2, .int (nI kv)), (3, .int (nI kz))] := (show z = nI kz from hz) ▸ hl
        have hvn : v.toNatClampNeg = kv := by rw [hv, nI_clamp (by omega)]
        have hzn : z.toNatClampNeg = kz := by rw [hz, nI_clamp (by omega)]
        refine lv_aload_n hx hb dX3_platesNeeded_32 rfl (lv_at hl 0 rfl) ?_
        refine lv_iload_n hx hb dX3_platesNeeded_33 rfl (lv_at hl 1 rfl) ?_
        refine lv_iload_n hx hb dX3_platesNeeded_34 rfl (lv_at hl 2 rfl) ?_
        refine lv_iload_n hx hb dX3_platesNeeded_35 rfl (lv_at hl 3 rfl) ?_
        have hPc := hP.sub (ws' := [(mm, .inr (3, [.int 0, .int (nI d), .int (nI r), .int ld, .int pl, .ref ao, .ref al, .int li, .int tl, .int mo, .ref aw, .ref aq, .int mn])), (ao, .inl (cI, 4, .inl fo)), (al, .inl (cI, 31, .inl fl))]) [0, 1, 2] rfl
        have hDc : va_D (fun q : Nat => L0 ≤ q) [(mm, .inr (3, [.int 0, .int (nI d), .int (nI r), .int ld, .int pl, .ref ao, .ref al, .int li, .int tl, .int mo, .ref aw, .ref aq, .int mn])), (ao, .inl (cI, 4, .inl fo)), (al, .inl (cI, 31, .inl fl))] := (hD.sub (ws' := [(mm, .inr (3, [.int 0, .int (nI d), .int (nI r), .int ld, .int pl, .ref ao, .ref al, .int li, .int tl, .int mo, .ref aw, .ref aq, .int mn])), (ao, .inl (cI, 4, .inl fo)), (al, .inl (cI, 31, .inl fl))]) [0, 1, 2] (by decide) rfl).weaken (fun _ z9 _ h9 => hAL _ h9)
        have hKc := hK.sub (tys' := [(cI, .int)]) [0] rfl
        refine c_callB (va_runV (As := [.int u, .int (nI kv), .int (nI kz)]) (rest := []) ⟨hx, hb, hml, hown, hts⟩ (q_fewestPlates l D L0 cI mm ao al aw aq d r 0 ld pl li tl mo mn fo fl u kv kz (by omega) hkz) (cwV 3 hts gX3_platesNeeded_X3_fewestPlates rfl rfl rfl (by decide +kernel) ⟨Nat.le_of_ble_eq_true rfl, Nat.le_of_ble_eq_true rfl⟩) ⟨cP_blind, va_recv hKc hPc (ci := 3) (q0 := 0) rfl rfl, cP_of hPc hKc hDc (kE_at hE0 hAL hS)⟩ rfl rfl hl.1 rfl (lv_room (Nat.le_of_ble_eq_true rfl)) dX3_platesNeeded_36 ⟨Nat.le_of_ble_eq_true rfl, Nat.le_of_ble_eq_true rfl⟩) hS (fun z9 _ ⟨k9, e9, h9⟩ => (hD.sub (ws' := [(mm, .inr (3, [.int 0, .int (nI d), .int (nI r), .int ld, .int pl, .ref ao, .ref al, .int li, .int tl, .int mo, .ref aw, .ref aq, .int mn])), (ao, .inl (cI, 4, .inl fo)), (al, .inl (cI, 31, .inl fl))]) [0, 1, 2] (by decide) rfl).2 k9 (z9, e9) h9) (fun z9 ⟨k9, e9, h9⟩ => (hD.sub (ws' := [(mm, .inr (3, [.int 0, .int (nI d), .int (nI r), .int ld, .int pl, .ref ao, .ref al, .int li, .int tl, .int mo, .ref aw, .ref aq, .int mn])), (ao, .inl (cI, 4, .inl fo)), (al, .inl (cI, 31, .inl fl))]) [0, 1, 2] (by decide) rfl).2 k9 (z9, e9) h9) (fun H1 locs hB hz1 hk1 hS => ?_)
        obtain ⟨hP, hD⟩ := c_join (ws' := [(mm, .inr (3, [.int 0, .int (nI d), .int (nI r), .int ld, .int pl, .ref ao, .ref al, .int li, .int tl, .int mo, .ref aw, .ref aq, .int mn])), (ao, .inl (cI, 4, .inl fo)), (al, .inl (cI, 31, .inl fl))]) (wr := []) (w1 := [(mm, .inr (3, [.int 0, .int (nI d), .int (nI r), .int ld, .int pl, .ref ao, .ref al, .int li, .int tl, .int mo, .ref aw, .ref aq, .int mn])), (ao, .inl (cI, 4, .inl fo)), (al, .inl (cI, 31, .inl fl))]) hP hD [0, 1, 2] [] [0, 1, 2] rfl rfl (by decide) (by decide) hk1 hB rfl rfl rfl (by decide)
        generalize H1 = H at hP hS ⊢
        show W _ _ _ _ _ _ _ _ _ _ _ _ _ _ _ (F0 m 39 ls [.int (pnN (fun k => safS fo fl (nI k) u kv kz) 13 0)])
        refine lv_goto (tgt := 47) hx hb dX3_platesNeeded_39 (by decide) ?_
        have hK1 : k2 (inR v 0 7) (inR u 0 60 ∧ inR z 3 30) = 0 := k2_yes hp1 ⟨hp2, hp3⟩
        exact W.iret (v := (pnN (fun k => safS fo fl (nI k) u kv kz) 13 0)) hx hb hRt (fun t ht hW => ⟨⟨by simp only [if_pos hK1]; rw [hvn, hzn], by rw [ht]; exact (by rw [hK1]; exact hP)⟩, hS.F ht⟩) hS.2.2 dX3_platesNeeded_47
  · have hn : ¬ (inR v 0 7) := fun hp => absurd c_31 (by rw [hbv_30]; simp [hp.1, hp.2, bI])
    refine lv_aload_n hx hb dX3_platesNeeded_12 rfl (lv_at hl 0 rfl) ?_
    refine lv_iconst (v := 1) hx hb dX3_platesNeeded_13 (by decide) ?_
    have hPc := hP.sub (ws' := [(mm, .inr (3, [.int 0, .int (nI d), .int (nI r), .int ld, .int pl, .ref ao, .ref al, .int li, .int tl, .int mo, .ref aw, .ref aq, .int mn]))]) [0] rfl
    have hDc : va_D (fun q : Nat => L0 ≤ q) [(mm, .inr (3, [.int 0, .int (nI d), .int (nI r), .int ld, .int pl, .ref ao, .ref al, .int li, .int tl, .int mo, .ref aw, .ref aq, .int mn]))] := (hD.sub (ws' := [(mm, .inr (3, [.int 0, .int (nI d), .int (nI r), .int ld, .int pl, .ref ao, .ref al, .int li, .int tl, .int mo, .ref aw, .ref aq, .int mn]))]) [0] (by decide) rfl).weaken (fun _ z9 _ h9 => hAL _ h9)
    have hKc := hK.sub (tys' := []) [] rfl
    refine c_callB (va_runV (As := [.int 1]) (rest := []) ⟨hx, hb, hml, hown, hts⟩ (q_no l D L0 mm ao al aw aq d r 0 ld pl li tl mo mn 1) (cwV 1 hts gX3_platesNeeded_X3_no rfl rfl rfl (by decide +kernel) ⟨Nat.le_of_ble_eq_true rfl, Nat.le_of_ble_eq_true rfl⟩) ⟨cP_blind, va_recv hKc hPc (ci := 3) (q0 := 0) rfl rfl, cP_of hPc hKc hDc (kE_at hE0 hAL hS)⟩ rfl rfl hl.1 rfl (lv_room (Nat.le_of_ble_eq_true rfl)) dX3_platesNeeded_14 ⟨Nat.le_of_ble_eq_true rfl, Nat.le_of_ble_eq_true rfl⟩) hS (fun z9 _ ⟨k9, e9, h9⟩ => (hD.sub (ws' := [(mm, .inr (3, [.int 0, .int (nI d), .int (nI r), .int ld, .int pl, .ref ao, .ref al, .int li, .int tl, .int mo, .ref aw, .ref aq, .int mn]))]) [0] (by decide) rfl).2 k9 (z9, e9) h9) (fun z9 ⟨k9, e9, h9⟩ => (hD.sub (ws' := [(mm, .inr (3, [.int 0, .int (nI d), .int (nI r), .int ld, .int pl, .ref ao, .ref al, .int li, .int tl, .int mo, .ref aw, .ref aq, .int mn]))]) [0] (by decide) rfl).2 k9 (z9, e9) h9) (fun H1 locs hB hz1 hk1 hS => ?_)
    obtain ⟨hP, hD⟩ := c_join (ws' := [(mm, .inr (3, [.int 1, .int (nI d), .int (nI r), .int ld, .int pl, .ref ao, .ref al, .int li, .int tl, .int mo, .ref aw, .ref aq, .int mn])), (ao, .inl (cI, 4, .inl fo)), (al, .inl (cI, 31, .inl fl))]) (wr := [(ao, .inl (cI, 4, .inl fo)), (al, .inl (cI, 31, .inl fl))]) (w1 := [(mm, .inr (3, [.int 1, .int (nI d), .int (nI r), .int ld, .int pl, .ref ao, .ref al, .int li, .int tl, .int mo, .ref aw, .ref aq, .int mn]))]) hP hD [0] [1, 2] [2, 0, 1] rfl rfl (by decide) (by decide) hk1 hB rfl rfl rfl (by decide)
    generalize H1 = H at hP hS ⊢
    show W _ _ _ _ _ _ _ _ _ _ _ _ _ _ _ (F0 m 17 ls [.int 0])
    have hK1 : k2 (inR v 0 7) (inR u 0 60 ∧ inR z 3 30) = 1 := k2_n1 hn
    have hKn : ¬ k2 (inR v 0 7) (inR u 0 60 ∧ inR z 3 30) = 0 := by rw [hK1]; decide
    exact W.iret (v := 0) hx hb hRt (fun t ht hW => ⟨⟨by simp only [if_neg hKn], by rw [ht]; exact (by rw [hK1]; exact hP)⟩, hS.F ht⟩) hS.2.2 dX3_platesNeeded_17
set_option maxHeartbeats 4000000 in
set_option maxRecDepth 100000 in
/-- bestOutrigger -/
theorem q_bestOutrigger (l : Launch) (D : va_G) (L0 : Nat) (cI : ClassId) (mm ao al aw aq d r : Nat) (th ld pl li tl mo mn : Int32) (fo fl : Nat → Int32) (fa fq : Nat → Int32) (u : Int32) (hd : d < 8) (hr : 3 ≤ r ∧ r ≤ 30) (hfo : ∀ k, k < 4 → fo k ≤ 6) : Met l yX3_bestOutrigger wsX3_bestOutrigger ({ frames := 6, cells := 0, slots := 0, locals := 151 }) (cP L0 D [(cI, .int)] [(mm, .inr (3, [.int th, .int (nI d), .int (nI r), .int ld, .int pl, .ref ao, .ref al, .int li, .int tl, .int mo, .ref aw, .ref aq, .int mn])), (ao, .inl (cI, 4, .inl fo)), (al, .inl (cI, 31, .inl fl)), (aw, .inl (cI, 248, .inl fa)), (aq, .inl (cI, 248, .inl fq))] [.ref mm, .int u]) (cB (some (.int (if k1 (inR u 0 60) = 0 then (boN (canS fo) (ownS fo fl pl u d r) 4).1 else 0))) (fun H => ∃ (n9 : Int32) (a9 q9 : Nat → Int32), va_P D vwCl [(mm, .inr (3, [.int (k1 (inR u 0 60)), .int (nI d), .int (nI r), .int ld, .int pl, .ref ao, .ref al, .int li, .int tl, .int mo, .ref aw, .ref aq, .int n9])), (ao, .inl (cI, 4, .inl fo)), (al, .inl (cI, 31, .inl fl)), (aw, .inl (cI, 248, .inl a9)), (aq, .inl (cI, 248, .inl q9))] H) (cA [(mm, .inr (3, [.int th, .int (nI d), .int (nI r), .int ld, .int pl, .ref ao, .ref al, .int li, .int tl, .int mo, .ref aw, .ref aq, .int mn])), (ao, .inl (cI, 4, .inl fo)), (al, .inl (cI, 31, .inl fl)), (aw, .inl (cI, 248, .inl fa)), (aq, .inl (cI, 248, .inl fq))])) 0 0 (cA [(mm, .inr (3, [.int th, .int (nI d), .int (nI r), .int ld, .int pl, .ref ao, .ref al, .int li, .int tl, .int mo, .ref aw, .ref aq, .int mn])), (ao, .inl (cI, 4, .inl fo)), (al, .inl (cI, 31, .inl fl)), (aw, .inl (cI, 248, .inl fa)), (aq, .inl (cI, 248, .inl fq))]) := by
  refine Met.ofW (cc := cX3_bestOutrigger) (maxL := 6) (ret := (some .int)) (by decide) rfl ?_
  intro p e s m args below meth c s₁ B hml hv
  obtain ⟨rfl, hP, hK, hD0, hE0⟩ := hv
  have hx := B.exec
  have hb := B.bytes
  have hRt := B.returns
  have hts := atoms_spec (ws := wsX3_bestOutrigger) B.pre
  have hown : s.vm.findClass RX3 = some m.cls := findClass_of_methodNamed B.named
  have hlocks := B.notSynchronized
  have hAL : ∀ z9 : Nat, cA [(mm, .inr (3, [.int th, .int (nI d), .int (nI r), .int ld, .int pl, .ref ao, .ref al, .int li, .int tl, .int mo, .ref aw, .ref aq, .int mn])), (ao, .inl (cI, 4, .inl fo)), (al, .inl (cI, 31, .inl fl)), (aw, .inl (cI, 248, .inl fa)), (aq, .inl (cI, 248, .inl fq))] z9 → L0 ≤ z9 := fun z9 ⟨k9, e9, h9⟩ => hD0.2 k9 (z9, e9) h9
  have hD : va_D (cA [(mm, .inr (3, [.int th, .int (nI d), .int (nI r), .int ld, .int pl, .ref ao, .ref al, .int li, .int tl, .int mo, .ref aw, .ref aq, .int mn])), (ao, .inl (cI, 4, .inl fo)), (al, .inl (cI, 31, .inl fl)), (aw, .inl (cI, 248, .inl fa)), (aq, .inl (cI, 248, .inl fq))]) [(mm, .inr (3, [.int th, .int (nI d), .int (nI r), .int ld, .int pl, .ref ao, .ref al, .int li, .int tl, .int mo, .ref aw, .ref aq, .int mn])), (ao, .inl (cI, 4, .inl fo)), (al, .inl (cI, 31, .inl fl)), (aw, .inl (cI, 248, .inl fa)), (aq, .inl (cI, 248, .inl fq))] := ⟨hD0.1, fun k9 z9 h9 => cA_of h9⟩
  generalize hAe : cA [(mm, .inr (3, [.int th, .int (nI d), .int (nI r), .int ld, .int pl, .ref ao, .ref al, .int li, .int tl, .int mo, .ref aw, .ref aq, .int mn])), (ao, .inl (cI, 4, .inl fo)), (al, .inl (cI, 31, .inl fl)), (aw, .inl (cI, 248, .inl fa)), (aq, .inl (cI, 248, .inl fq))] = A at hD hAL ⊢
  have hS : va_S A s.heap s.heap [] := va_S.rf
  have hiX3 : ∀ w ∈ u_ws RX3 TX3 13, w ∈ wsX3_bestOutrigger := by decide +kernel
  have hl := lv_entry ([.ref mm, .int u]) (n := 6) (Nat.le_of_ble_eq_true rfl)
  rw [lg_entry_eq]
  generalize (lg_sl ([.ref mm, .int u]) ++ List.replicate (6 - (lg_sl ([.ref mm, .int u])).length) Slot.unset).toArray = ls at hl ⊢
  have hl : lv_has ls 6 [(0, .ref mm), (1, .int u)] := hl
  refine lv_aload_n hx hb dX3_bestOutrigger_0 rfl (lv_at hl 0 rfl) ?_
  refine lv_iconst (v := 0) hx hb dX3_bestOutrigger_1 (by decide) ?_
  refine va_put (D := D) (ci := 3) (v := .int 0) (ty := .int) (C := RX3) (T := TX3) (N := 13) hx hb hts hiX3 tyX3 tyX3_ok nmX3 hown hK hP hD hS 0 rfl rfl 0 (by decide) (hts (.fieldLink RX3 26 "CraneReachModel" "thrown" "I") (by decide +kernel)) (fun _ h9 => h9) rfl (by decide +kernel) rfl rfl (Nat.le_of_ble_eq_true rfl) dX3_bestOutrigger_2 (fun H locs hP hD hS => ?_)
  have hP : va_P D vwCl [(mm, .inr (3, [.int 0, .int (nI d), .int (nI r), .int ld, .int pl, .ref ao, .ref al, .int li, .int tl, .int mo, .ref aw, .ref aq, .int mn])), (ao, .inl (cI, 4, .inl fo)), (al, .inl (cI, 31, .inl fl)), (aw, .inl (cI, 248, .inl fa)), (aq, .inl (cI, 248, .inl fq))] H := hP
  have hD : va_D A [(mm, .inr (3, [.int 0, .int (nI d), .int (nI r), .int ld, .int pl, .ref ao, .ref al, .int li, .int tl, .int mo, .ref aw, .ref aq, .int mn])), (ao, .inl (cI, 4, .inl fo)), (al, .inl (cI, 31, .inl fl)), (aw, .inl (cI, 248, .inl fa)), (aq, .inl (cI, 248, .inl fq))] := hD
  refine lv_iload_n hx hb dX3_bestOutrigger_5 rfl (lv_at hl 1 rfl) ?_
  have hPc := hP.sub (ws' := []) [] rfl
  have hDc : va_D (fun q : Nat => L0 ≤ q) [] := (hD.sub (ws' := []) [] (by decide) rfl).weaken (fun _ z9 _ h9 => hAL _ h9)
  have hKc := hK.sub (tys' := []) [] rfl
  refine c_callR (va_runS (As := [.int u]) (rest := []) ⟨hx, hb, hml, hown, hts⟩ (q_isLoad l D L0 u) (va_cwS 1 hts gX3_bestOutrigger_X3_isLoad rfl rfl rfl (by decide +kernel) ⟨Nat.le_of_ble_eq_true rfl, Nat.le_of_ble_eq_true rfl⟩) ⟨cP_blind, cP_of hPc hKc hDc (kE_at hE0 hAL hS)⟩ rfl rfl hl.1 rfl (lv_room (Nat.le_of_ble_eq_true rfl)) dX3_bestOutrigger_6 ⟨Nat.le_of_ble_eq_true rfl, Nat.le_of_ble_eq_true rfl⟩) ?_
  show W _ _ _ _ _ _ _ _ _ _ _ _ _ _ _ (F0 m 9 ls [.int (bI (decide (0 ≤ u) && decide (u ≤ 60)))])
  obtain ⟨b_38, hbv_39⟩ : ∃ z9 : Bool, z9 = (decide (0 ≤ u) && decide (u ≤ 60)) := ⟨_, rfl⟩
  refine c_top (show (bI (decide (0 ≤ u) && decide (u ≤ 60))) = bI b_38 from by rw [hbv_39]) ?_
  refine lv_if_ne (tgt := 18) hx hb dX3_bestOutrigger_9 (by decide) (fun c_40 => ?_) (fun c_40 => ?_)
  · have hp : inR u 0 60 := by cases b_38 with | true => simpa using hbv_39.symm | false => exact absurd rfl c_40
    have loop : ∀ (n : Nat) (k : Nat) (qn : Int32) (qa : Nat → Int32) (qq : Nat → Int32) (H : Heap) (locs : List Loc) (ls : Array Slot), k + n = 4 → lv_has ls 6 [(4, .int (nI k)), (2, .int ((boN (canS fo) (ownS fo fl pl u d r) k).1)), (3, .int ((boN (canS fo) (ownS fo fl pl u d r) k).2)), (0, .ref mm), (1, .int u)] → va_P D vwCl [(mm, .inr (3, [.int 0, .int (nI d), .int (nI r), .int ld, .int pl, .ref ao, .ref al, .int li, .int tl, .int mo, .ref aw, .ref aq, .int qn])), (ao, .inl (cI, 4, .inl fo)), (al, .inl (cI, 31, .inl fl)), (aw, .inl (cI, 248, .inl qa)), (aq, .inl (cI, 248, .inl qq))] H → va_D A [(mm, .inr (3, [.int 0, .int (nI d), .int (nI r), .int ld, .int pl, .ref ao, .ref al, .int li, .int tl, .int mo, .ref aw, .ref aq, .int qn])), (ao, .inl (cI, 4, .inl fo)), (al, .inl (cI, 31, .inl fl)), (aw, .inl (cI, 248, .inl qa)), (aq, .inl (cI, 248, .inl qq))] → va_S A s.heap H locs → W p l e (headSpec wsX3_bestOutrigger ({ frames := 6, cells := 0, slots := 0, locals := 151 })).room s m ([.ref mm, .int u]).toArray below meth c H locs 0 0 (MQ below (cB (some (.int (if k1 (inR u 0 60) = 0 then (boN (canS fo) (ownS fo fl pl u d r) 4).1 else 0))) (fun H => ∃ (n9 : Int32) (a9 q9 : Nat → Int32), va_P D vwCl [(mm, .inr (3, [.int (k1 (inR u 0 60)), .int (nI d), .int (nI r), .int ld, .int pl, .ref ao, .ref al, .int li, .int tl, .int mo, .ref aw, .ref aq, .int n9])), (ao, .inl (cI, 4, .inl fo)), (al, .inl (cI, 31, .inl fl)), (aw, .inl (cI, 248, .inl a9)), (aq, .inl (cI, 248, .inl q9))] H) A) ([.ref mm, .int u]).toArray s 0 0 A) (F0 m 25 ls []) := by
      intro n
      induction n with
      | zero =>
        intro k qn qa qq H locs ls hn hl hP hD hS
        have hi : k = 4 := by omega
        rw [hi] at hl
        refine lv_iload hx hb dX3_bestOutrigger_25 (lv_at hl 0 rfl) ?_
        refine lv_iconst (v := 4) hx hb dX3_bestOutrigger_27 (by decide) ?_
        refine lv_icmp_ge (tgt := 96) hx hb dX3_bestOutrigger_28 (by decide) (fun _ => ?_) (fun c_41 => absurd (by decide) c_41)
        refine lv_iload_n hx hb dX3_bestOutrigger_96 rfl (lv_at hl 1 rfl) ?_
        have hK1 : k1 (inR u 0 60) = 0 := k1_yes hp
        exact W.iret (v := ((boN (canS fo) (ownS fo fl pl u d r) 4).1)) hx hb hRt (fun t ht hW => ⟨⟨by simp only [if_pos hK1], by rw [ht]; exact (by rw [hK1]; exact ⟨_, _, _, hP⟩)⟩, hS.F ht⟩) hS.2.2 dX3_bestOutrigger_97
      | succ n ih =>
        intro k qn qa qq H locs ls hn hl hP hD hS
        refine lv_iload hx hb dX3_bestOutrigger_25 (lv_at hl 0 rfl) ?_
        refine lv_iconst (v := 4) hx hb dX3_bestOutrigger_27 (by decide) ?_
        refine lv_icmp_ge (tgt := 96) hx hb dX3_bestOutrigger_28 (by decide) (fun c_42 => absurd c_42 (nI_ge (b := 4) (by omega) (by decide))) (fun _ => ?_)
        refine lv_aload_n hx hb dX3_bestOutrigger_31 rfl (lv_at hl 3 rfl) ?_
        refine va_get (D := D) (ci := 3) (v := .ref ao) (C := RX3) (T := TX3) (N := 13) hx hb hts hiX3 hown hK hP 0 rfl rfl 5 (by decide) (hts (.fieldLink RX3 13 "CraneReachModel" "out" "[I") (by decide +kernel)) (fun _ h9 => h9) rfl dX3_bestOutrigger_32 ?_
        refine lv_iload hx hb dX3_bestOutrigger_35 (lv_at hl 0 rfl) ?_
        refine va_iald hx hb hK hP 1 0 rfl rfl (vp_in_nI (by omega) (by decide)) dX3_bestOutrigger_37 ?_
        refine c_top (show (fo (nI k).toNatClampNeg) = fo k from by rw [nI_clamp (by omega)]) ?_
        refine lv_bipush (v := 6) hx hb dX3_bestOutrigger_38 (by decide) ?_
        refine lv_icmp_ne (tgt := 46) hx hb dX3_bestOutrigger_40 (by decide) (fun c_43 => ?_) (fun c_43 => ?_)
        · have hcan : canS fo k = true := decide_eq_true (i_lt_ne (hfo k (by omega)) c_43)
          refine lv_aload_n hx hb dX3_bestOutrigger_46 rfl (lv_at hl 3 rfl) ?_
          refine va_get (D := D) (ci := 3) (v := .ref ao) (C := RX3) (T := TX3) (N := 13) hx hb hts hiX3 hown hK hP 0 rfl rfl 5 (by decide) (hts (.fieldLink RX3 13 "CraneReachModel" "out" "[I") (by decide +kernel)) (fun _ h9 => h9) rfl dX3_bestOutrigger_47 ?_
          refine lv_iload hx hb dX3_bestOutrigger_50 (lv_at hl 0 rfl) ?_
          refine lv_dup2_11 hx hb dX3_bestOutrigger_52 rfl rfl ?_
          refine va_iald hx hb hK hP 1 0 rfl rfl (vp_in_nI (by omega) (by decide)) dX3_bestOutrigger_53 ?_
          refine c_top (show (fo (nI k).toNatClampNeg) = fo k from by rw [nI_clamp (by omega)]) ?_
          refine lv_iconst (v := 1) hx hb dX3_bestOutrigger_54 (by decide) ?_
          refine lv_iadd hx hb dX3_bestOutrigger_55 ?_
          refine va_iast hx hb hK hP hD hS 1 0 rfl rfl (vp_in_nI (by omega) (by decide)) dX3_bestOutrigger_56 (fun H locs hP hD hS => ?_)
          have hP : va_P D vwCl [(mm, .inr (3, [.int 0, .int (nI d), .int (nI r), .int ld, .int pl, .ref ao, .ref al, .int li, .int tl, .int mo, .ref aw, .ref aq, .int qn])), (ao, .inl (cI, 4, .inl (upd fo (nI k).toNatClampNeg ((fo k) + 1)))), (al, .inl (cI, 31, .inl fl)), (aw, .inl (cI, 248, .inl qa)), (aq, .inl (cI, 248, .inl qq))] H := hP
          have hD : va_D A [(mm, .inr (3, [.int 0, .int (nI d), .int (nI r), .int ld, .int pl, .ref ao, .ref al, .int li, .int tl, .int mo, .ref aw, .ref aq, .int qn])), (ao, .inl (cI, 4, .inl (upd fo (nI k).toNatClampNeg ((fo k) + 1)))), (al, .inl (cI, 31, .inl fl)), (aw, .inl (cI, 248, .inl qa)), (aq, .inl (cI, 248, .inl qq))] := hD
          rw [show (nI k).toNatClampNeg = k from nI_clamp (by omega)] at hP hD
          have hP : va_P D vwCl [(mm, .inr (3, [.int 0, .int (nI d), .int (nI r), .int ld, .int pl, .ref ao, .ref al, .int li, .int tl, .int mo, .ref aw, .ref aq, .int qn])), (ao, .inl (cI, 4, .inl (upd fo k ((fo k) + 1)))), (al, .inl (cI, 31, .inl fl)), (aw, .inl (cI, 248, .inl qa)), (aq, .inl (cI, 248, .inl qq))] H := hP
          have hD : va_D A [(mm, .inr (3, [.int 0, .int (nI d), .int (nI r), .int ld, .int pl, .ref ao, .ref al, .int li, .int tl, .int mo, .ref aw, .ref aq, .int qn])), (ao, .inl (cI, 4, .inl (upd fo k ((fo k) + 1)))), (al, .inl (cI, 31, .inl fl)), (aw, .inl (cI, 248, .inl qa)), (aq, .inl (cI, 248, .inl qq))] := hD
          refine lv_aload_n hx hb dX3_bestOutrigger_57 rfl (lv_at hl 3 rfl) ?_
          refine lv_iload_n hx hb dX3_bestOutrigger_58 rfl (lv_at hl 4 rfl) ?_
          have hPc := hP.sub (ws' := [(mm, .inr (3, [.int 0, .int (nI d), .int (nI r), .int ld, .int pl, .ref ao, .ref al, .int li, .int tl, .int mo, .ref aw, .ref aq, .int qn])), (ao, .inl (cI, 4, .inl (upd fo k ((fo k) + 1)))), (al, .inl (cI, 31, .inl fl)), (aw, .inl (cI, 248, .inl qa)), (aq, .inl (cI, 248, .inl qq))]) [0, 1, 2, 3, 4] rfl
          have hDc : va_D (fun q : Nat => L0 ≤ q) [(mm, .inr (3, [.int 0, .int (nI d), .int (nI r), .int ld, .int pl, .ref ao, .ref al, .int li, .int tl, .int mo, .ref aw, .ref aq, .int qn])), (ao, .inl (cI, 4, .inl (upd fo k ((fo k) + 1)))), (al, .inl (cI, 31, .inl fl)), (aw, .inl (cI, 248, .inl qa)), (aq, .inl (cI, 248, .inl qq))] := (hD.sub (ws' := [(mm, .inr (3, [.int 0, .int (nI d), .int (nI r), .int ld, .int pl, .ref ao, .ref al, .int li, .int tl, .int mo, .ref aw, .ref aq, .int qn])), (ao, .inl (cI, 4, .inl (upd fo k ((fo k) + 1)))), (al, .inl (cI, 31, .inl fl)), (aw, .inl (cI, 248, .inl qa)), (aq, .inl (cI, 248, .inl qq))]) [0, 1, 2, 3, 4] (by decide) rfl).weaken (fun _ z9 _ h9 => hAL _ h9)
          have hKc := hK.sub (tys' := [(cI, .int)]) [0] rfl
          refine c_callB (va_runV (As := [.int u]) (rest := []) ⟨hx, hb, hml, hown, hts⟩ (q_within l D L0 cI mm ao al aw aq d r 0 ld pl li tl mo qn (upd fo k ((fo k) + 1)) fl qa qq u hd hr) (cwV 1 hts gX3_bestOutrigger_X3_within rfl rfl rfl (by decide +kernel) ⟨Nat.le_of_ble_eq_true rfl, Nat.le_of_ble_eq_true rfl⟩) ⟨cP_blind, va_recv hKc hPc (ci := 3) (q0 := 0) rfl rfl, cP_of hPc hKc hDc (kE_at hE0 hAL hS)⟩ rfl rfl hl.1 rfl (lv_room (Nat.le_of_ble_eq_true rfl)) dX3_bestOutrigger_59 ⟨Nat.le_of_ble_eq_true rfl, Nat.le_of_ble_eq_true rfl⟩) hS (fun z9 _ ⟨k9, e9, h9⟩ => (hD.sub (ws' := [(mm, .inr (3, [.int 0, .int (nI d), .int (nI r), .int ld, .int pl, .ref ao, .ref al, .int li, .int tl, .int mo, .ref aw, .ref aq, .int qn])), (ao, .inl (cI, 4, .inl (upd fo k ((fo k) + 1)))), (al, .inl (cI, 31, .inl fl)), (aw, .inl (cI, 248, .inl qa)), (aq, .inl (cI, 248, .inl qq))]) [0, 1, 2, 3, 4] (by decide) rfl).2 k9 (z9, e9) h9) (fun z9 ⟨k9, e9, h9⟩ => (hD.sub (ws' := [(mm, .inr (3, [.int 0, .int (nI d), .int (nI r), .int ld, .int pl, .ref ao, .ref al, .int li, .int tl, .int mo, .ref aw, .ref aq, .int qn])), (ao, .inl (cI, 4, .inl (upd fo k ((fo k) + 1)))), (al, .inl (cI, 31, .inl fl)), (aw, .inl (cI, 248, .inl qa)), (aq, .inl (cI, 248, .inl qq))]) [0, 1, 2, 3, 4] (by decide) rfl).2 k9 (z9, e9) h9) (fun H1 locs hB hz1 hk1 hS => ?_)
          obtain ⟨fa9, fq9, hC, hB⟩ := hB
          obtain ⟨hP, hD⟩ := c_join (ws' := [(mm, .inr (3, [.int 0, .int (nI d), .int (nI r), .int ld, .int pl, .ref ao, .ref al, .int li, .int tl, .int mo, .ref aw, .ref aq, .int (nI (goS (safS (upd fo k (fo k + 1)) fl pl u) d r).2.2)])), (ao, .inl (cI, 4, .inl (upd fo k (fo k + 1)))), (al, .inl (cI, 31, .inl fl)), (aw, .inl (cI, 248, .inl fa9)), (aq, .inl (cI, 248, .inl fq9))]) (wr := []) (w1 := [(mm, .inr (3, [.int 0, .int (nI d), .int (nI r), .int ld, .int pl, .ref ao, .ref al, .int li, .int tl, .int mo, .ref aw, .ref aq, .int (nI (goS (safS (upd fo k (fo k + 1)) fl pl u) d r).2.2)])), (ao, .inl (cI, 4, .inl (upd fo k (fo k + 1)))), (al, .inl (cI, 31, .inl fl)), (aw, .inl (cI, 248, .inl fa9)), (aq, .inl (cI, 248, .inl fq9))]) hP hD [0, 1, 2, 3, 4] [] [0, 1, 2, 3, 4] rfl rfl (by decide) (by decide) hk1 hB rfl rfl rfl (by decide)
          generalize H1 = H at hP hS ⊢
          show W _ _ _ _ _ _ _ _ _ _ _ _ _ _ _ (F0 m 62 ls [.int (nI (goS (safS (upd fo k (fo k + 1)) fl pl u) d r).2.2)])
          refine c_top (show (nI (goS (safS (upd fo k (fo k + 1)) fl pl u) d r).2.2) = ownS fo fl pl u d r k from rfl) ?_
          refine lv_istore (lv' := [(5, .int (ownS fo fl pl u d r k)), (4, .int (nI k)), (2, .int ((boN (canS fo) (ownS fo fl pl u d r) k).1)), (3, .int ((boN (canS fo) (ownS fo fl pl u d r) k).2)), (0, .ref mm), (1, .int u)]) hx hb dX3_bestOutrigger_62 hl (by decide) rfl (fun ls hl => ?_)
          refine lv_aload_n hx hb dX3_bestOutrigger_64 rfl (lv_at hl 4 rfl) ?_
          refine va_get (D := D) (ci := 3) (v := .ref ao) (C := RX3) (T := TX3) (N := 13) hx hb hts hiX3 hown hK hP 0 rfl rfl 5 (by decide) (hts (.fieldLink RX3 13 "CraneReachModel" "out" "[I") (by decide +kernel)) (fun _ h9 => h9) rfl dX3_bestOutrigger_65 ?_
          refine lv_iload hx hb dX3_bestOutrigger_68 (lv_at hl 1 rfl) ?_
          refine lv_dup2_11 hx hb dX3_bestOutrigger_70 rfl rfl ?_
          refine va_iald hx hb hK hP 1 0 rfl rfl (vp_in_nI (by omega) (by decide)) dX3_bestOutrigger_71 ?_
          refine c_top (show ((upd fo k (fo k + 1)) (nI k).toNatClampNeg) = (upd fo k (fo k + 1)) k from by rw [nI_clamp (by omega)]) ?_
          refine c_top (show ((upd fo k (fo k + 1)) k) = fo k + 1 from pk_us) ?_
          refine lv_iconst (v := 1) hx hb dX3_bestOutrigger_72 (by decide) ?_
          refine lv_isub hx hb dX3_bestOutrigger_73 ?_
          refine va_iast hx hb hK hP hD hS 1 0 rfl rfl (vp_in_nI (by omega) (by decide)) dX3_bestOutrigger_74 (fun H locs hP hD hS => ?_)
          have hP : va_P D vwCl [(mm, .inr (3, [.int 0, .int (nI d), .int (nI r), .int ld, .int pl, .ref ao, .ref al, .int li, .int tl, .int mo, .ref aw, .ref aq, .int (nI (goS (safS (upd fo k (fo k + 1)) fl pl u) d r).2.2)])), (ao, .inl (cI, 4, .inl (upd (upd fo k (fo k + 1)) (nI k).toNatClampNeg ((fo k + 1) - 1)))), (al, .inl (cI, 31, .inl fl)), (aw, .inl (cI, 248, .inl fa9)), (aq, .inl (cI, 248, .inl fq9))] H := hP
          have hD : va_D A [(mm, .inr (3, [.int 0, .int (nI d), .int (nI r), .int ld, .int pl, .ref ao, .ref al, .int li, .int tl, .int mo, .ref aw, .ref aq, .int (nI (goS (safS (upd fo k (fo k + 1)) fl pl u) d r).2.2)])), (ao, .inl (cI, 4, .inl (upd (upd fo k (fo k + 1)) (nI k).toNatClampNeg ((fo k + 1) - 1)))), (al, .inl (cI, 31, .inl fl)), (aw, .inl (cI, 248, .inl fa9)), (aq, .inl (cI, 248, .inl fq9))] := hD
          rw [show (nI k).toNatClampNeg = k from nI_clamp (by omega)] at hP hD
          rw [upd_inc] at hP hD
          have hP : va_P D vwCl [(mm, .inr (3, [.int 0, .int (nI d), .int (nI r), .int ld, .int pl, .ref ao, .ref al, .int li, .int tl, .int mo, .ref aw, .ref aq, .int (nI (goS (safS (upd fo k (fo k + 1)) fl pl u) d r).2.2)])), (ao, .inl (cI, 4, .inl fo)), (al, .inl (cI, 31, .inl fl)), (aw, .inl (cI, 248, .inl fa9)), (aq, .inl (cI, 248, .inl fq9))] H := hP
          have hD : va_D A [(mm, .inr (3, [.int 0, .int (nI d), .int (nI r), .int ld, .int pl, .ref ao, .ref al, .int li, .int tl, .int mo, .ref aw, .ref aq, .int (nI (goS (safS (upd fo k (fo k + 1)) fl pl u) d r).2.2)])), (ao, .inl (cI, 4, .inl fo)), (al, .inl (cI, 31, .inl fl)), (aw, .inl (cI, 248, .inl fa9)), (aq, .inl (cI, 248, .inl fq9))] := hD
          refine lv_iload hx hb dX3_bestOutrigger_75 (lv_at hl 0 rfl) ?_
          refine lv_iload_n hx hb dX3_bestOutrigger_77 rfl (lv_at hl 3 rfl) ?_
          refine lv_icmp_gt (tgt := 84) hx hb dX3_bestOutrigger_78 (by decide) (fun c_44 => ?_) (fun c_44 => ?_)
          · have e : boN (canS fo) (ownS fo fl pl u d r) (k + 1) = (nI k, ownS fo fl pl u d r k) := by rw [boN, if_pos hcan, if_pos c_44]
            refine lv_iload hx hb dX3_bestOutrigger_84 (lv_at hl 1 rfl) ?_
            refine lv_istore_n (lv' := [(2, .int (nI k)), (5, .int (ownS fo fl pl u d r k)), (4, .int (nI k)), (3, .int ((boN (canS fo) (ownS fo fl pl u d r) k).2)), (0, .ref mm), (1, .int u)]) hx hb dX3_bestOutrigger_86 rfl hl (by decide) rfl (fun ls hl => ?_)
            refine lv_iload hx hb dX3_bestOutrigger_87 (lv_at hl 1 rfl) ?_
            refine lv_istore_n (lv' := [(3, .int (ownS fo fl pl u d r k)), (2, .int (nI k)), (5, .int (ownS fo fl pl u d r k)), (4, .int (nI k)), (0, .ref mm), (1, .int u)]) hx hb dX3_bestOutrigger_89 rfl hl (by decide) rfl (fun ls hl => ?_)
            refine lv_iinc (v := (nI k) + 1) (lv' := [(4, .int ((nI k) + 1)), (3, .int (ownS fo fl pl u d r k)), (2, .int (nI k)), (5, .int (ownS fo fl pl u d r k)), (0, .ref mm), (1, .int u)]) hx hb dX3_bestOutrigger_90 hl (k := 3) rfl rfl (by decide) rfl (fun ls hl => ?_)
            refine lv_goto (tgt := 25) hx hb dX3_bestOutrigger_93 (by decide) ?_
            have hl : lv_has ls 6 [(4, .int (nI (k + 1))), (3, .int (ownS fo fl pl u d r k)), (2, .int (nI k)), (5, .int (ownS fo fl pl u d r k)), (0, .ref mm), (1, .int u)] := (show (nI k) + 1 = nI (k + 1) from nI_1 k) ▸ hl
            have hl : lv_has ls 6 [(4, .int (nI (k + 1))), (3, .int (ownS fo fl pl u d r k)), (2, .int ((boN (canS fo) (ownS fo fl pl u d r) (k + 1)).1)), (5, .int (ownS fo fl pl u d r k)), (0, .ref mm), (1, .int u)] := (show nI k = (boN (canS fo) (ownS fo fl pl u d r) (k + 1)).1 from by rw [e]) ▸ hl
            have hl : lv_has ls 6 [(4, .int (nI (k + 1))), (3, .int ((boN (canS fo) (ownS fo fl pl u d r) (k + 1)).2)), (2, .int ((boN (canS fo) (ownS fo fl pl u d r) (k + 1)).1)), (5, .int (ownS fo fl pl u d r k)), (0, .ref mm), (1, .int u)] := (show ownS fo fl pl u d r k = (boN (canS fo) (ownS fo fl pl u d r) (k + 1)).2 from by rw [e]) ▸ hl
            exact ih (k + 1) _ _ _ _ _ _ (by omega) (lv_sub hl [0, 2, 1, 4, 5] rfl) hP hD hS
          · have e : boN (canS fo) (ownS fo fl pl u d r) (k + 1) = boN (canS fo) (ownS fo fl pl u d r) k := by rw [boN, if_pos hcan, if_neg c_44]
            refine lv_goto (tgt := 90) hx hb dX3_bestOutrigger_81 (by decide) ?_
            refine lv_iinc (v := (nI k) + 1) (lv' := [(4, .int ((nI k) + 1)), (5, .int (ownS fo fl pl u d r k)), (2, .int ((boN (canS fo) (ownS fo fl pl u d r) k).1)), (3, .int ((boN (canS fo) (ownS fo fl pl u d r) k).2)), (0, .ref mm), (1, .int u)]) hx hb dX3_bestOutrigger_90 hl (k := 1) rfl rfl (by decide) rfl (fun ls hl => ?_)
            refine lv_goto (tgt := 25) hx hb dX3_bestOutrigger_93 (by decide) ?_
            have hl : lv_has ls 6 [(4, .int (nI (k + 1))), (5, .int (ownS fo fl pl u d r k)), (2, .int ((boN (canS fo) (ownS fo fl pl u d r) k).1)), (3, .int ((boN (canS fo) (ownS fo fl pl u d r) k).2)), (0, .ref mm), (1, .int u)] := (show (nI k) + 1 = nI (k + 1) from nI_1 k) ▸ hl
            have hl : lv_has ls 6 [(4, .int (nI (k + 1))), (5, .int (ownS fo fl pl u d r k)), (2, .int ((boN (canS fo) (ownS fo fl pl u d r) (k + 1)).1)), (3, .int ((boN (canS fo) (ownS fo fl pl u d r) k).2)), (0, .ref mm), (1, .int u)] := (show (boN (canS fo) (ownS fo fl pl u d r) k).1 = (boN (canS fo) (ownS fo fl pl u d r) (k + 1)).1 from by rw [e]) ▸ hl
            have hl : lv_has ls 6 [(4, .int (nI (k + 1))), (5, .int (ownS fo fl pl u d r k)), (2, .int ((boN (canS fo) (ownS fo fl pl u d r) (k + 1)).1)), (3, .int ((boN (canS fo) (ownS fo fl pl u d r) (k + 1)).2)), (0, .ref mm), (1, .int u)] := (show (boN (canS fo) (ownS fo fl pl u d r) k).2 = (boN (canS fo) (ownS fo fl pl u d r) (k + 1)).2 from by rw [e]) ▸ hl
            exact ih (k + 1) _ _ _ _ _ _ (by omega) (lv_sub hl [0, 2, 3, 4, 5] rfl) hP hD hS
        · refine lv_goto (tgt := 90) hx hb dX3_bestOutrigger_43 (by decide) ?_
          have e : boN (canS fo) (ownS fo fl pl u d r) (k + 1) = boN (canS fo) (ownS fo fl pl u d r) k := by rw [boN, if_neg (show ¬ canS fo k = true from fun z => absurd (of_decide_eq_true z) (by rw [c_43]; decide))]
          refine lv_iinc (v := (nI k) + 1) (lv' := [(4, .int ((nI k) + 1)), (2, .int ((boN (canS fo) (ownS fo fl pl u d r) k).1)), (3, .int ((boN (canS fo) (ownS fo fl pl u d r) k).2)), (0, .ref mm), (1, .int u)]) hx hb dX3_bestOutrigger_90 hl (k := 0) rfl rfl (by decide) rfl (fun ls hl => ?_)
          refine lv_goto (tgt := 25) hx hb dX3_bestOutrigger_93 (by decide) ?_
          have hl : lv_has ls 6 [(4, .int (nI (k + 1))), (2, .int ((boN (canS fo) (ownS fo fl pl u d r) k).1)), (3, .int ((boN (canS fo) (ownS fo fl pl u d r) k).2)), (0, .ref mm), (1, .int u)] := (show (nI k) + 1 = nI (k + 1) from nI_1 k) ▸ hl
          have hl : lv_has ls 6 [(4, .int (nI (k + 1))), (2, .int ((boN (canS fo) (ownS fo fl pl u d r) (k + 1)).1)), (3, .int ((boN (canS fo) (ownS fo fl pl u d r) k).2)), (0, .ref mm), (1, .int u)] := (show (boN (canS fo) (ownS fo fl pl u d r) k).1 = (boN (canS fo) (ownS fo fl pl u d r) (k + 1)).1 from by rw [e]) ▸ hl
          have hl : lv_has ls 6 [(4, .int (nI (k + 1))), (2, .int ((boN (canS fo) (ownS fo fl pl u d r) (k + 1)).1)), (3, .int ((boN (canS fo) (ownS fo fl pl u d r) (k + 1)).2)), (0, .ref mm), (1, .int u)] := (show (boN (canS fo) (ownS fo fl pl u d r) k).2 = (boN (canS fo) (ownS fo fl pl u d r) (k + 1)).2 from by rw [e]) ▸ hl
          exact ih (k + 1) _ _ _ _ _ _ (by omega) (lv_sub hl [0, 1, 2, 3, 4] rfl) hP hD hS
    refine lv_iconst (v := -1) hx hb dX3_bestOutrigger_18 (by decide) ?_
    refine lv_istore_n (lv' := [(2, .int (-1)), (0, .ref mm), (1, .int u)]) hx hb dX3_bestOutrigger_19 rfl hl (by decide) rfl (fun ls hl => ?_)
    refine lv_iconst (v := -1) hx hb dX3_bestOutrigger_20 (by decide) ?_
    refine lv_istore_n (lv' := [(3, .int (-1)), (2, .int (-1)), (0, .ref mm), (1, .int u)]) hx hb dX3_bestOutrigger_21 rfl hl (by decide) rfl (fun ls hl => ?_)
    refine lv_iconst (v := 0) hx hb dX3_bestOutrigger_22 (by decide) ?_
    refine lv_istore (lv' := [(4, .int 0), (3, .int (-1)), (2, .int (-1)), (0, .ref mm), (1, .int u)]) hx hb dX3_bestOutrigger_23 hl (by decide) rfl (fun ls hl => ?_)
    have hl : lv_has ls 6 [(4, .int (nI 0)), (3, .int (-1)), (2, .int (-1)), (0, .ref mm), (1, .int u)] := (show 0 = nI 0 from rfl) ▸ hl
    have hl : lv_has ls 6 [(4, .int (nI 0)), (3, .int (-1)), (2, .int ((boN (canS fo) (ownS fo fl pl u d r) 0).1)), (0, .ref mm), (1, .int u)] := (show (-1) = (boN (canS fo) (ownS fo fl pl u d r) 0).1 from rfl) ▸ hl
    have hl : lv_has ls 6 [(4, .int (nI 0)), (3, .int ((boN (canS fo) (ownS fo fl pl u d r) 0).2)), (2, .int ((boN (canS fo) (ownS fo fl pl u d r) 0).1)), (0, .ref mm), (1, .int u)] := (show (-1) = (boN (canS fo) (ownS fo fl pl u d r) 0).2 from rfl) ▸ hl
    exact loop 4 0 _ _ _ _ _ _ (by omega) (lv_sub hl [0, 2, 1, 3, 4] rfl) hP hD hS
  · have hn : ¬ (inR u 0 60) := fun hp => absurd c_40 (by rw [hbv_39]; simp [hp.1, hp.2, bI])
    refine lv_aload_n hx hb dX3_bestOutrigger_12 rfl (lv_at hl 0 rfl) ?_
    refine lv_iconst (v := 1) hx hb dX3_bestOutrigger_13 (by decide) ?_
    have hPc := hP.sub (ws' := [(mm, .inr (3, [.int 0, .int (nI d), .int (nI r), .int ld, .int pl, .ref ao, .ref al, .int li, .int tl, .int mo, .ref aw, .ref aq, .int mn]))]) [0] rfl
    have hDc : va_D (fun q : Nat => L0 ≤ q) [(mm, .inr (3, [.int 0, .int (nI d), .int (nI r), .int ld, .int pl, .ref ao, .ref al, .int li, .int tl, .int mo, .ref aw, .ref aq, .int mn]))] := (hD.sub (ws' := [(mm, .inr (3, [.int 0, .int (nI d), .int (nI r), .int ld, .int pl, .ref ao, .ref al, .int li, .int tl, .int mo, .ref aw, .ref aq, .int mn]))]) [0] (by decide) rfl).weaken (fun _ z9 _ h9 => hAL _ h9)
    have hKc := hK.sub (tys' := []) [] rfl
    refine c_callB (va_runV (As := [.int 1]) (rest := []) ⟨hx, hb, hml, hown, hts⟩ (q_no l D L0 mm ao al aw aq d r 0 ld pl li tl mo mn 1) (cwV 1 hts gX3_bestOutrigger_X3_no rfl rfl rfl (by decide +kernel) ⟨Nat.le_of_ble_eq_true rfl, Nat.le_of_ble_eq_true rfl⟩) ⟨cP_blind, va_recv hKc hPc (ci := 3) (q0 := 0) rfl rfl, cP_of hPc hKc hDc (kE_at hE0 hAL hS)⟩ rfl rfl hl.1 rfl (lv_room (Nat.le_of_ble_eq_true rfl)) dX3_bestOutrigger_14 ⟨Nat.le_of_ble_eq_true rfl, Nat.le_of_ble_eq_true rfl⟩) hS (fun z9 _ ⟨k9, e9, h9⟩ => (hD.sub (ws' := [(mm, .inr (3, [.int 0, .int (nI d), .int (nI r), .int ld, .int pl, .ref ao, .ref al, .int li, .int tl, .int mo, .ref aw, .ref aq, .int mn]))]) [0] (by decide) rfl).2 k9 (z9, e9) h9) (fun z9 ⟨k9, e9, h9⟩ => (hD.sub (ws' := [(mm, .inr (3, [.int 0, .int (nI d), .int (nI r), .int ld, .int pl, .ref ao, .ref al, .int li, .int tl, .int mo, .ref aw, .ref aq, .int mn]))]) [0] (by decide) rfl).2 k9 (z9, e9) h9) (fun H1 locs hB hz1 hk1 hS => ?_)
    obtain ⟨hP, hD⟩ := c_join (ws' := [(mm, .inr (3, [.int 1, .int (nI d), .int (nI r), .int ld, .int pl, .ref ao, .ref al, .int li, .int tl, .int mo, .ref aw, .ref aq, .int mn])), (ao, .inl (cI, 4, .inl fo)), (al, .inl (cI, 31, .inl fl)), (aw, .inl (cI, 248, .inl fa)), (aq, .inl (cI, 248, .inl fq))]) (wr := [(ao, .inl (cI, 4, .inl fo)), (al, .inl (cI, 31, .inl fl)), (aw, .inl (cI, 248, .inl fa)), (aq, .inl (cI, 248, .inl fq))]) (w1 := [(mm, .inr (3, [.int 1, .int (nI d), .int (nI r), .int ld, .int pl, .ref ao, .ref al, .int li, .int tl, .int mo, .ref aw, .ref aq, .int mn]))]) hP hD [0] [1, 2, 3, 4] [4, 0, 1, 2, 3] rfl rfl (by decide) (by decide) hk1 hB rfl rfl rfl (by decide)
    generalize H1 = H at hP hS ⊢
    show W _ _ _ _ _ _ _ _ _ _ _ _ _ _ _ (F0 m 17 ls [.int 0])
    have hK1 : k1 (inR u 0 60) = 1 := k1_no hn
    have hKn : ¬ k1 (inR u 0 60) = 0 := by rw [hK1]; decide
    exact W.iret (v := 0) hx hb hRt (fun t ht hW => ⟨⟨by simp only [if_neg hKn], by rw [ht]; exact (by rw [hK1]; exact ⟨_, _, _, hP⟩)⟩, hS.F ht⟩) hS.2.2 dX3_bestOutrigger_17
set_option maxHeartbeats 4000000 in
set_option maxRecDepth 100000 in
/-- meanLoad() -/
theorem q_meanLoad (l : Launch) (D : va_G) (L0 : Nat) (mm ao al aw aq d r : Nat) (th ld pl li tl mo mn : Int32) : MetD lw_cs l yX3_meanLoad wsX3_meanLoad ({ frames := 0, cells := 0, slots := 0, locals := 0 }) (cP L0 D [] [(mm, .inr (3, [.int th, .int (nI d), .int (nI r), .int ld, .int pl, .ref ao, .ref al, .int li, .int tl, .int mo, .ref aw, .ref aq, .int mn]))] [.ref mm]) (cDw (mnS li tl) (fun H => va_P D vwCl [(mm, .inr (3, [.int 0, .int (nI d), .int (nI r), .int ld, .int pl, .ref ao, .ref al, .int li, .int tl, .int mo, .ref aw, .ref aq, .int mn]))] H) (cA [(mm, .inr (3, [.int th, .int (nI d), .int (nI r), .int ld, .int pl, .ref ao, .ref al, .int li, .int tl, .int mo, .ref aw, .ref aq, .int mn]))])) 0 0 (cA [(mm, .inr (3, [.int th, .int (nI d), .int (nI r), .int ld, .int pl, .ref ao, .ref al, .int li, .int tl, .int mo, .ref aw, .ref aq, .int mn]))]) := by
  refine MetD.ofW (cc := cX3_meanLoad) (maxL := 1) (ret := (some .double)) (by decide) rfl ?_
  intro p e s m args below meth c s₁ B hml hv hd0
  obtain ⟨rfl, hP, hK, hD0, hE0⟩ := hv
  have hx := B.exec
  have hb := B.bytes
  have hRt := B.returns
  have hts := dr_words (atoms_spec (ws := wsX3_meanLoad) B.pre) s.drawn
  have hown : s.vm.findClass RX3 = some m.cls := findClass_of_methodNamed B.named
  have hlocks := B.notSynchronized
  have hAL : ∀ z9 : Nat, cA [(mm, .inr (3, [.int th, .int (nI d), .int (nI r), .int ld, .int pl, .ref ao, .ref al, .int li, .int tl, .int mo, .ref aw, .ref aq, .int mn]))] z9 → L0 ≤ z9 := fun z9 ⟨k9, e9, h9⟩ => hD0.2 k9 (z9, e9) h9
  have hD : va_D (cA [(mm, .inr (3, [.int th, .int (nI d), .int (nI r), .int ld, .int pl, .ref ao, .ref al, .int li, .int tl, .int mo, .ref aw, .ref aq, .int mn]))]) [(mm, .inr (3, [.int th, .int (nI d), .int (nI r), .int ld, .int pl, .ref ao, .ref al, .int li, .int tl, .int mo, .ref aw, .ref aq, .int mn]))] := ⟨hD0.1, fun k9 z9 h9 => cA_of h9⟩
  generalize hAe : cA [(mm, .inr (3, [.int th, .int (nI d), .int (nI r), .int ld, .int pl, .ref ao, .ref al, .int li, .int tl, .int mo, .ref aw, .ref aq, .int mn]))] = A at hD hAL ⊢
  have hS : va_S A s.heap s.heap [] := va_S.rf
  have hiX3 : ∀ w ∈ u_ws RX3 TX3 13, w ∈ wsX3_meanLoad := by decide +kernel
  have hl := lv_entry ([.ref mm]) (n := 1) (Nat.le_of_ble_eq_true rfl)
  rw [lg_entry_eq]
  generalize (lg_sl ([.ref mm]) ++ List.replicate (1 - (lg_sl ([.ref mm])).length) Slot.unset).toArray = ls at hl ⊢
  have hl : lv_has ls 1 [(0, .ref mm)] := hl
  refine lv_aload_n hx hb dX3_meanLoad_0 rfl (lv_at hl 0 rfl) ?_
  refine lv_iconst (v := 0) hx hb dX3_meanLoad_1 (by decide) ?_
  refine va_put (D := D) (ci := 3) (v := .int 0) (ty := .int) (C := RX3) (T := TX3) (N := 13) hx hb hts hiX3 tyX3 tyX3_ok nmX3 hown hK hP hD hS 0 rfl rfl 0 (by decide) (hts (.fieldLink RX3 26 "CraneReachModel" "thrown" "I") (by decide +kernel)) (fun _ h9 => h9) rfl (by decide +kernel) rfl rfl (Nat.le_of_ble_eq_true rfl) dX3_meanLoad_2 (fun H locs hP hD hS => ?_)
  have hP : va_P D vwCl [(mm, .inr (3, [.int 0, .int (nI d), .int (nI r), .int ld, .int pl, .ref ao, .ref al, .int li, .int tl, .int mo, .ref aw, .ref aq, .int mn]))] H := hP
  have hD : va_D A [(mm, .inr (3, [.int 0, .int (nI d), .int (nI r), .int ld, .int pl, .ref ao, .ref al, .int li, .int tl, .int mo, .ref aw, .ref aq, .int mn]))] := hD
  refine lv_aload_n hx hb dX3_meanLoad_5 rfl (lv_at hl 0 rfl) ?_
  refine va_get (D := D) (ci := 3) (v := .int li) (C := RX3) (T := TX3) (N := 13) hx hb hts hiX3 hown hK hP 0 rfl rfl 7 (by decide) (hts (.fieldLink RX3 78 "CraneReachModel" "lifts" "I") (by decide +kernel)) (fun _ h9 => h9) rfl dX3_meanLoad_6 ?_
  refine lv_if_ne (tgt := 16) hx hb dX3_meanLoad_9 (by decide) (fun c_45 => ?_) (fun c_45 => ?_)
  · refine lv_aload_n hx hb dX3_meanLoad_16 rfl (lv_at hl 0 rfl) ?_
    refine va_get (D := D) (ci := 3) (v := .int tl) (C := RX3) (T := TX3) (N := 13) hx hb hts hiX3 hown hK hP 0 rfl rfl 8 (by decide) (hts (.fieldLink RX3 81 "CraneReachModel" "tons" "I") (by decide +kernel)) (fun _ h9 => h9) rfl dX3_meanLoad_17 ?_
    refine lv_i2d hx hb dX3_meanLoad_20 ?_
    refine lv_aload_n hx hb dX3_meanLoad_21 rfl (lv_at hl 0 rfl) ?_
    refine va_get (D := D) (ci := 3) (v := .int li) (C := RX3) (T := TX3) (N := 13) hx hb hts hiX3 hown hK hP 0 rfl rfl 7 (by decide) (hts (.fieldLink RX3 78 "CraneReachModel" "lifts" "I") (by decide +kernel)) (fun _ h9 => h9) rfl dX3_meanLoad_22 ?_
    refine lv_i2d hx hb dX3_meanLoad_25 ?_
    refine lv_ddiv_any hd0 lw_bits hx hb dX3_meanLoad_26 (fun r1 d1 hal hd1 => ?_)
    refine W.endD hd1 ?_
    exact W.dret hx hb hRt (fun t ht hW => ⟨⟨⟨r1, rfl, by rw [mnS, if_neg c_45]; exact hal⟩, by rw [ht]; exact hP⟩, hS.F ht⟩) hS.2.2 dX3_meanLoad_27
  · refine lv_dconst0 hx hb dX3_meanLoad_12 ?_
    refine lv_goto (tgt := 27) hx hb dX3_meanLoad_13 (by decide) ?_
    refine W.endD hd0 ?_
    exact W.dret hx hb hRt (fun t ht hW => ⟨⟨⟨FP.dconst0, rfl, by rw [mnS, if_pos c_45]; exact alike64_refl _⟩, by rw [ht]; exact hP⟩, hS.F ht⟩) hS.2.2 dX3_meanLoad_27
set_option maxHeartbeats 4000000 in
set_option maxRecDepth 100000 in
/-- digest() -/
theorem q_digest (l : Launch) (D : va_G) (L0 : Nat) (cI : ClassId) (mm ao al aw aq d r : Nat) (th ld pl li tl mo mn : Int32) (fo fl : Nat → Int32) (hd : d < 8) (hr : 3 ≤ r ∧ r ≤ 30) (hex : ∃ k, k ≤ 60 ∧ safS fo fl pl (nI k) d r = true) (sz : Nat) : Met l yX3_digest wsX3_digest ({ frames := 4, cells := 1, slots := 9, locals := 105 }) (cPz L0 D [(cI, .int)] [(mm, .inr (3, [.int th, .int (nI d), .int (nI r), .int ld, .int pl, .ref ao, .ref al, .int li, .int tl, .int mo, .ref aw, .ref aq, .int mn])), (ao, .inl (cI, 4, .inl fo)), (al, .inl (cI, 31, .inl fl))] [.ref mm] sz) (cB (some (.long (digS d r ld li tl mo pl fo fl))) (fun H => va_P D vwCl [(mm, .inr (3, [.int 0, .int (nI d), .int (nI r), .int ld, .int pl, .ref ao, .ref al, .int li, .int tl, .int mo, .ref aw, .ref aq, .int mn])), (ao, .inl (cI, 4, .inl fo)), (al, .inl (cI, 31, .inl fl))] H) (va_A [(mm, .inr (3, [.int th, .int (nI d), .int (nI r), .int ld, .int pl, .ref ao, .ref al, .int li, .int tl, .int mo, .ref aw, .ref aq, .int mn])), (ao, .inl (cI, 4, .inl fo)), (al, .inl (cI, 31, .inl fl))] sz)) 1 9 (va_A [(mm, .inr (3, [.int th, .int (nI d), .int (nI r), .int ld, .int pl, .ref ao, .ref al, .int li, .int tl, .int mo, .ref aw, .ref aq, .int mn])), (ao, .inl (cI, 4, .inl fo)), (al, .inl (cI, 31, .inl fl))] sz) := by
  refine Met.ofW (cc := cX3_digest) (maxL := 8) (ret := (some .long)) (by decide) rfl ?_
  intro p e s m args below meth c s₁ B hml hv
  obtain ⟨⟨rfl, hP, hK, hD0, hE0⟩, rfl⟩ := hv
  have hx := B.exec
  have hb := B.bytes
  have hRt := B.returns
  have hts := atoms_spec (ws := wsX3_digest) B.pre
  have hown : s.vm.findClass RX3 = some m.cls := findClass_of_methodNamed B.named
  have hlocks := B.notSynchronized
  have hAL : ∀ z9 : Nat, va_A [(mm, .inr (3, [.int th, .int (nI d), .int (nI r), .int ld, .int pl, .ref ao, .ref al, .int li, .int tl, .int mo, .ref aw, .ref aq, .int mn])), (ao, .inl (cI, 4, .inl fo)), (al, .inl (cI, 31, .inl fl))] s.heap.size z9 → L0 ≤ z9 := fun z9 h9 => h9.elim (fun ⟨k9, e9, h8⟩ => hD0.2 k9 (z9, e9) h8) (fun h8 => Nat.le_trans hE0.1 h8)
  have hD : va_D (va_A [(mm, .inr (3, [.int th, .int (nI d), .int (nI r), .int ld, .int pl, .ref ao, .ref al, .int li, .int tl, .int mo, .ref aw, .ref aq, .int mn])), (ao, .inl (cI, 4, .inl fo)), (al, .inl (cI, 31, .inl fl))] s.heap.size) [(mm, .inr (3, [.int th, .int (nI d), .int (nI r), .int ld, .int pl, .ref ao, .ref al, .int li, .int tl, .int mo, .ref aw, .ref aq, .int mn])), (ao, .inl (cI, 4, .inl fo)), (al, .inl (cI, 31, .inl fl))] := hD0.self
  have hA : ∀ z9 : Nat, s.heap.size ≤ z9 → va_A [(mm, .inr (3, [.int th, .int (nI d), .int (nI r), .int ld, .int pl, .ref ao, .ref al, .int li, .int tl, .int mo, .ref aw, .ref aq, .int mn])), (ao, .inl (cI, 4, .inl fo)), (al, .inl (cI, 31, .inl fl))] s.heap.size z9 := fun z9 h9 => Or.inr h9
  generalize hAe : va_A [(mm, .inr (3, [.int th, .int (nI d), .int (nI r), .int ld, .int pl, .ref ao, .ref al, .int li, .int tl, .int mo, .ref aw, .ref aq, .int mn])), (ao, .inl (cI, 4, .inl fo)), (al, .inl (cI, 31, .inl fl))] s.heap.size = A at hD hAL hA ⊢
  have hS : va_S A s.heap s.heap [] := va_S.rf
  have hiX3 : ∀ w ∈ u_ws RX3 TX3 13, w ∈ wsX3_digest := by decide +kernel
  have hl := lv_entry ([.ref mm]) (n := 8) (Nat.le_of_ble_eq_true rfl)
  rw [lg_entry_eq]
  generalize (lg_sl ([.ref mm]) ++ List.replicate (8 - (lg_sl ([.ref mm])).length) Slot.unset).toArray = ls at hl ⊢
  have hl : lv_has ls 8 [(0, .ref mm)] := hl
  refine lv_aload_n hx hb dX3_digest_0 rfl (lv_at hl 0 rfl) ?_
  refine lv_iconst (v := 0) hx hb dX3_digest_1 (by decide) ?_
  refine va_put (D := D) (ci := 3) (v := .int 0) (ty := .int) (C := RX3) (T := TX3) (N := 13) hx hb hts hiX3 tyX3 tyX3_ok nmX3 hown hK hP hD hS 0 rfl rfl 0 (by decide) (hts (.fieldLink RX3 26 "CraneReachModel" "thrown" "I") (by decide +kernel)) (fun _ h9 => h9) rfl (by decide +kernel) rfl rfl (Nat.le_of_ble_eq_true rfl) dX3_digest_2 (fun H locs hP hD hS => ?_)
  have hP : va_P D vwCl [(mm, .inr (3, [.int 0, .int (nI d), .int (nI r), .int ld, .int pl, .ref ao, .ref al, .int li, .int tl, .int mo, .ref aw, .ref aq, .int mn])), (ao, .inl (cI, 4, .inl fo)), (al, .inl (cI, 31, .inl fl))] H := hP
  have hD : va_D A [(mm, .inr (3, [.int 0, .int (nI d), .int (nI r), .int ld, .int pl, .ref ao, .ref al, .int li, .int tl, .int mo, .ref aw, .ref aq, .int mn])), (ao, .inl (cI, 4, .inl fo)), (al, .inl (cI, 31, .inl fl))] := hD
  refine lv_bipush (v := 9) hx hb dX3_digest_5 (by decide) ?_
  refine va_newa (atype := .int) (ty := .int) (a0 := (9, .inl (fun _ => 0))) (N' := 9) hx hb (hts (.arrayClass .int) (by decide +kernel)) rfl hK hP hD hS hA (fun _ => rfl) (by decide) (by decide) (Nat.le_of_ble_eq_true rfl) (Nat.le_of_ble_eq_true rfl) (Nat.le_of_ble_eq_true rfl) dX3_digest_7 (fun ra cA H hK hP hD hS => ?_)
  have eA : cA = cI := Option.some.inj ((hK.2 1 _ rfl).2.symm.trans (hK.2 0 _ rfl).2)
  rw [eA] at hP hD
  have hK := hK.sub (tys' := [(cI, .int)]) [0] rfl
  have hP : va_P D vwCl [(mm, .inr (3, [.int 0, .int (nI d), .int (nI r), .int ld, .int pl, .ref ao, .ref al, .int li, .int tl, .int mo, .ref aw, .ref aq, .int mn])), (ao, .inl (cI, 4, .inl fo)), (al, .inl (cI, 31, .inl fl)), (ra, .inl (cI, 9, .inl (fun _ => 0)))] H := hP
  have hD : va_D A [(mm, .inr (3, [.int 0, .int (nI d), .int (nI r), .int ld, .int pl, .ref ao, .ref al, .int li, .int tl, .int mo, .ref aw, .ref aq, .int mn])), (ao, .inl (cI, 4, .inl fo)), (al, .inl (cI, 31, .inl fl)), (ra, .inl (cI, 9, .inl (fun _ => 0)))] := hD
  refine lv_dup hx hb dX3_digest_9 rfl ?_
  refine lv_iconst (v := 0) hx hb dX3_digest_10 (by decide) ?_
  refine lv_aload_n hx hb dX3_digest_11 rfl (lv_at hl 0 rfl) ?_
  refine va_get (D := D) (ci := 3) (v := .int (nI d)) (C := RX3) (T := TX3) (N := 13) hx hb hts hiX3 hown hK hP 0 rfl rfl 1 (by decide) (hts (.fieldLink RX3 56 "CraneReachModel" "direction" "I") (by decide +kernel)) (fun _ h9 => h9) rfl dX3_digest_12 ?_
  refine va_iast hx hb hK hP hD hS 3 0 rfl rfl (vp_in_nI (n := 0) (by decide) (by decide)) dX3_digest_15 (fun H locs hP hD hS => ?_)
  have hP : va_P D vwCl [(mm, .inr (3, [.int 0, .int (nI d), .int (nI r), .int ld, .int pl, .ref ao, .ref al, .int li, .int tl, .int mo, .ref aw, .ref aq, .int mn])), (ao, .inl (cI, 4, .inl fo)), (al, .inl (cI, 31, .inl fl)), (ra, .inl (cI, 9, .inl (upd (fun _ => 0) 0 (nI d))))] H := hP
  have hD : va_D A [(mm, .inr (3, [.int 0, .int (nI d), .int (nI r), .int ld, .int pl, .ref ao, .ref al, .int li, .int tl, .int mo, .ref aw, .ref aq, .int mn])), (ao, .inl (cI, 4, .inl fo)), (al, .inl (cI, 31, .inl fl)), (ra, .inl (cI, 9, .inl (upd (fun _ => 0) 0 (nI d))))] := hD
  refine lv_dup hx hb dX3_digest_16 rfl ?_
  refine lv_iconst (v := 1) hx hb dX3_digest_17 (by decide) ?_
  refine lv_aload_n hx hb dX3_digest_18 rfl (lv_at hl 0 rfl) ?_
  refine va_get (D := D) (ci := 3) (v := .int (nI r)) (C := RX3) (T := TX3) (N := 13) hx hb hts hiX3 hown hK hP 0 rfl rfl 2 (by decide) (hts (.fieldLink RX3 9 "CraneReachModel" "reach" "I") (by decide +kernel)) (fun _ h9 => h9) rfl dX3_digest_19 ?_
  refine va_iast hx hb hK hP hD hS 3 0 rfl rfl (vp_in_nI (n := 1) (by decide) (by decide)) dX3_digest_22 (fun H locs hP hD hS => ?_)
  have hP : va_P D vwCl [(mm, .inr (3, [.int 0, .int (nI d), .int (nI r), .int ld, .int pl, .ref ao, .ref al, .int li, .int tl, .int mo, .ref aw, .ref aq, .int mn])), (ao, .inl (cI, 4, .inl fo)), (al, .inl (cI, 31, .inl fl)), (ra, .inl (cI, 9, .inl (upd (upd (fun _ => 0) 0 (nI d)) 1 (nI r))))] H := hP
  have hD : va_D A [(mm, .inr (3, [.int 0, .int (nI d), .int (nI r), .int ld, .int pl, .ref ao, .ref al, .int li, .int tl, .int mo, .ref aw, .ref aq, .int mn])), (ao, .inl (cI, 4, .inl fo)), (al, .inl (cI, 31, .inl fl)), (ra, .inl (cI, 9, .inl (upd (upd (fun _ => 0) 0 (nI d)) 1 (nI r))))] := hD
  refine lv_dup hx hb dX3_digest_23 rfl ?_
  refine lv_iconst (v := 2) hx hb dX3_digest_24 (by decide) ?_
  refine lv_aload_n hx hb dX3_digest_25 rfl (lv_at hl 0 rfl) ?_
  refine va_get (D := D) (ci := 3) (v := .int ld) (C := RX3) (T := TX3) (N := 13) hx hb hts hiX3 hown hK hP 0 rfl rfl 3 (by decide) (hts (.fieldLink RX3 53 "CraneReachModel" "load" "I") (by decide +kernel)) (fun _ h9 => h9) rfl dX3_digest_26 ?_
  refine va_iast hx hb hK hP hD hS 3 0 rfl rfl (vp_in_nI (n := 2) (by decide) (by decide)) dX3_digest_29 (fun H locs hP hD hS => ?_)
  have hP : va_P D vwCl [(mm, .inr (3, [.int 0, .int (nI d), .int (nI r), .int ld, .int pl, .ref ao, .ref al, .int li, .int tl, .int mo, .ref aw, .ref aq, .int mn])), (ao, .inl (cI, 4, .inl fo)), (al, .inl (cI, 31, .inl fl)), (ra, .inl (cI, 9, .inl (upd (upd (upd (fun _ => 0) 0 (nI d)) 1 (nI r)) 2 ld)))] H := hP
  have hD : va_D A [(mm, .inr (3, [.int 0, .int (nI d), .int (nI r), .int ld, .int pl, .ref ao, .ref al, .int li, .int tl, .int mo, .ref aw, .ref aq, .int mn])), (ao, .inl (cI, 4, .inl fo)), (al, .inl (cI, 31, .inl fl)), (ra, .inl (cI, 9, .inl (upd (upd (upd (fun _ => 0) 0 (nI d)) 1 (nI r)) 2 ld)))] := hD
  refine lv_dup hx hb dX3_digest_30 rfl ?_
  refine lv_iconst (v := 3) hx hb dX3_digest_31 (by decide) ?_
  refine lv_aload_n hx hb dX3_digest_32 rfl (lv_at hl 0 rfl) ?_
  refine va_get (D := D) (ci := 3) (v := .int pl) (C := RX3) (T := TX3) (N := 13) hx hb hts hiX3 hown hK hP 0 rfl rfl 4 (by decide) (hts (.fieldLink RX3 46 "CraneReachModel" "plates" "I") (by decide +kernel)) (fun _ h9 => h9) rfl dX3_digest_33 ?_
  refine va_iast hx hb hK hP hD hS 3 0 rfl rfl (vp_in_nI (n := 3) (by decide) (by decide)) dX3_digest_36 (fun H locs hP hD hS => ?_)
  have hP : va_P D vwCl [(mm, .inr (3, [.int 0, .int (nI d), .int (nI r), .int ld, .int pl, .ref ao, .ref al, .int li, .int tl, .int mo, .ref aw, .ref aq, .int mn])), (ao, .inl (cI, 4, .inl fo)), (al, .inl (cI, 31, .inl fl)), (ra, .inl (cI, 9, .inl (upd (upd (upd (upd (fun _ => 0) 0 (nI d)) 1 (nI r)) 2 ld) 3 pl)))] H := hP
  have hD : va_D A [(mm, .inr (3, [.int 0, .int (nI d), .int (nI r), .int ld, .int pl, .ref ao, .ref al, .int li, .int tl, .int mo, .ref aw, .ref aq, .int mn])), (ao, .inl (cI, 4, .inl fo)), (al, .inl (cI, 31, .inl fl)), (ra, .inl (cI, 9, .inl (upd (upd (upd (upd (fun _ => 0) 0 (nI d)) 1 (nI r)) 2 ld) 3 pl)))] := hD
  refine lv_dup hx hb dX3_digest_37 rfl ?_
  refine lv_iconst (v := 4) hx hb dX3_digest_38 (by decide) ?_
  refine lv_aload_n hx hb dX3_digest_39 rfl (lv_at hl 0 rfl) ?_
  have hPc := hP.sub (ws' := [(mm, .inr (3, [.int 0, .int (nI d), .int (nI r), .int ld, .int pl, .ref ao, .ref al, .int li, .int tl, .int mo, .ref aw, .ref aq, .int mn])), (ao, .inl (cI, 4, .inl fo)), (al, .inl (cI, 31, .inl fl))]) [0, 1, 2] rfl
  have hDc : va_D (fun q : Nat => L0 ≤ q) [(mm, .inr (3, [.int 0, .int (nI d), .int (nI r), .int ld, .int pl, .ref ao, .ref al, .int li, .int tl, .int mo, .ref aw, .ref aq, .int mn])), (ao, .inl (cI, 4, .inl fo)), (al, .inl (cI, 31, .inl fl))] := (hD.sub (ws' := [(mm, .inr (3, [.int 0, .int (nI d), .int (nI r), .int ld, .int pl, .ref ao, .ref al, .int li, .int tl, .int mo, .ref aw, .ref aq, .int mn])), (ao, .inl (cI, 4, .inl fo)), (al, .inl (cI, 31, .inl fl))]) [0, 1, 2] (by decide) rfl).weaken (fun _ z9 _ h9 => hAL _ h9)
  have hKc := hK.sub (tys' := [(cI, .int)]) [0] rfl
  refine c_callR (va_runV (As := []) (rest := [.int 4, .ref ra, .ref ra]) ⟨hx, hb, hml, hown, hts⟩ (q_weakest l D L0 cI mm ao al aw aq d r 0 ld pl li tl mo mn fo fl hd) (cwV 0 hts gX3_digest_X3_weakest rfl rfl rfl (by decide +kernel) ⟨Nat.le_of_ble_eq_true rfl, Nat.le_of_ble_eq_true rfl⟩) ⟨cP_blind, va_recv hKc hPc (ci := 3) (q0 := 0) rfl rfl, cP_of hPc hKc hDc (kE_at hE0 hAL hS)⟩ rfl rfl hl.1 rfl (lv_room (Nat.le_of_ble_eq_true rfl)) dX3_digest_40 ⟨Nat.le_of_ble_eq_true rfl, Nat.le_of_ble_eq_true rfl⟩) ?_
  show W _ _ _ _ _ _ _ _ _ _ _ _ _ _ _ (F0 m 43 ls [.int (nI (wkN (fun k => strS fo pl k ld d r) 4)), .int 4, .ref ra, .ref ra])
  refine va_iast hx hb hK hP hD hS 3 0 rfl rfl (vp_in_nI (n := 4) (by decide) (by decide)) dX3_digest_43 (fun H locs hP hD hS => ?_)
  have hP : va_P D vwCl [(mm, .inr (3, [.int 0, .int (nI d), .int (nI r), .int ld, .int pl, .ref ao, .ref al, .int li, .int tl, .int mo, .ref aw, .ref aq, .int mn])), (ao, .inl (cI, 4, .inl fo)), (al, .inl (cI, 31, .inl fl)), (ra, .inl (cI, 9, .inl (upd (upd (upd (upd (upd (fun _ => 0) 0 (nI d)) 1 (nI r)) 2 ld) 3 pl) 4 (nI (wkN (fun k => strS fo pl k ld d r) 4)))))] H := hP
  have hD : va_D A [(mm, .inr (3, [.int 0, .int (nI d), .int (nI r), .int ld, .int pl, .ref ao, .ref al, .int li, .int tl, .int mo, .ref aw, .ref aq, .int mn])), (ao, .inl (cI, 4, .inl fo)), (al, .inl (cI, 31, .inl fl)), (ra, .inl (cI, 9, .inl (upd (upd (upd (upd (upd (fun _ => 0) 0 (nI d)) 1 (nI r)) 2 ld) 3 pl) 4 (nI (wkN (fun k => strS fo pl k ld d r) 4)))))] := hD
  refine lv_dup hx hb dX3_digest_44 rfl ?_
  refine lv_iconst (v := 5) hx hb dX3_digest_45 (by decide) ?_
  refine lv_aload_n hx hb dX3_digest_46 rfl (lv_at hl 0 rfl) ?_
  refine va_get (D := D) (ci := 3) (v := .int li) (C := RX3) (T := TX3) (N := 13) hx hb hts hiX3 hown hK hP 0 rfl rfl 7 (by decide) (hts (.fieldLink RX3 78 "CraneReachModel" "lifts" "I") (by decide +kernel)) (fun _ h9 => h9) rfl dX3_digest_47 ?_
  refine va_iast hx hb hK hP hD hS 3 0 rfl rfl (vp_in_nI (n := 5) (by decide) (by decide)) dX3_digest_50 (fun H locs hP hD hS => ?_)
  have hP : va_P D vwCl [(mm, .inr (3, [.int 0, .int (nI d), .int (nI r), .int ld, .int pl, .ref ao, .ref al, .int li, .int tl, .int mo, .ref aw, .ref aq, .int mn])), (ao, .inl (cI, 4, .inl fo)), (al, .inl (cI, 31, .inl fl)), (ra, .inl (cI, 9, .inl (upd (upd (upd (upd (upd (upd (fun _ => 0) 0 (nI d)) 1 (nI r)) 2 ld) 3 pl) 4 (nI (wkN (fun k => strS fo pl k ld d r) 4))) 5 li)))] H := hP
  have hD : va_D A [(mm, .inr (3, [.int 0, .int (nI d), .int (nI r), .int ld, .int pl, .ref ao, .ref al, .int li, .int tl, .int mo, .ref aw, .ref aq, .int mn])), (ao, .inl (cI, 4, .inl fo)), (al, .inl (cI, 31, .inl fl)), (ra, .inl (cI, 9, .inl (upd (upd (upd (upd (upd (upd (fun _ => 0) 0 (nI d)) 1 (nI r)) 2 ld) 3 pl) 4 (nI (wkN (fun k => strS fo pl k ld d r) 4))) 5 li)))] := hD
  refine lv_dup hx hb dX3_digest_51 rfl ?_
  refine lv_bipush (v := 6) hx hb dX3_digest_52 (by decide) ?_
  refine lv_aload_n hx hb dX3_digest_54 rfl (lv_at hl 0 rfl) ?_
  refine va_get (D := D) (ci := 3) (v := .int tl) (C := RX3) (T := TX3) (N := 13) hx hb hts hiX3 hown hK hP 0 rfl rfl 8 (by decide) (hts (.fieldLink RX3 81 "CraneReachModel" "tons" "I") (by decide +kernel)) (fun _ h9 => h9) rfl dX3_digest_55 ?_
  refine va_iast hx hb hK hP hD hS 3 0 rfl rfl (vp_in_nI (n := 6) (by decide) (by decide)) dX3_digest_58 (fun H locs hP hD hS => ?_)
  have hP : va_P D vwCl [(mm, .inr (3, [.int 0, .int (nI d), .int (nI r), .int ld, .int pl, .ref ao, .ref al, .int li, .int tl, .int mo, .ref aw, .ref aq, .int mn])), (ao, .inl (cI, 4, .inl fo)), (al, .inl (cI, 31, .inl fl)), (ra, .inl (cI, 9, .inl (upd (upd (upd (upd (upd (upd (upd (fun _ => 0) 0 (nI d)) 1 (nI r)) 2 ld) 3 pl) 4 (nI (wkN (fun k => strS fo pl k ld d r) 4))) 5 li) 6 tl)))] H := hP
  have hD : va_D A [(mm, .inr (3, [.int 0, .int (nI d), .int (nI r), .int ld, .int pl, .ref ao, .ref al, .int li, .int tl, .int mo, .ref aw, .ref aq, .int mn])), (ao, .inl (cI, 4, .inl fo)), (al, .inl (cI, 31, .inl fl)), (ra, .inl (cI, 9, .inl (upd (upd (upd (upd (upd (upd (upd (fun _ => 0) 0 (nI d)) 1 (nI r)) 2 ld) 3 pl) 4 (nI (wkN (fun k => strS fo pl k ld d r) 4))) 5 li) 6 tl)))] := hD
  refine lv_dup hx hb dX3_digest_59 rfl ?_
  refine lv_bipush (v := 7) hx hb dX3_digest_60 (by decide) ?_
  refine lv_aload_n hx hb dX3_digest_62 rfl (lv_at hl 0 rfl) ?_
  refine va_get (D := D) (ci := 3) (v := .int mo) (C := RX3) (T := TX3) (N := 13) hx hb hts hiX3 hown hK hP 0 rfl rfl 9 (by decide) (hts (.fieldLink RX3 84 "CraneReachModel" "moves" "I") (by decide +kernel)) (fun _ h9 => h9) rfl dX3_digest_63 ?_
  refine va_iast hx hb hK hP hD hS 3 0 rfl rfl (vp_in_nI (n := 7) (by decide) (by decide)) dX3_digest_66 (fun H locs hP hD hS => ?_)
  have hP : va_P D vwCl [(mm, .inr (3, [.int 0, .int (nI d), .int (nI r), .int ld, .int pl, .ref ao, .ref al, .int li, .int tl, .int mo, .ref aw, .ref aq, .int mn])), (ao, .inl (cI, 4, .inl fo)), (al, .inl (cI, 31, .inl fl)), (ra, .inl (cI, 9, .inl (upd (upd (upd (upd (upd (upd (upd (upd (fun _ => 0) 0 (nI d)) 1 (nI r)) 2 ld) 3 pl) 4 (nI (wkN (fun k => strS fo pl k ld d r) 4))) 5 li) 6 tl) 7 mo)))] H := hP
  have hD : va_D A [(mm, .inr (3, [.int 0, .int (nI d), .int (nI r), .int ld, .int pl, .ref ao, .ref al, .int li, .int tl, .int mo, .ref aw, .ref aq, .int mn])), (ao, .inl (cI, 4, .inl fo)), (al, .inl (cI, 31, .inl fl)), (ra, .inl (cI, 9, .inl (upd (upd (upd (upd (upd (upd (upd (upd (fun _ => 0) 0 (nI d)) 1 (nI r)) 2 ld) 3 pl) 4 (nI (wkN (fun k => strS fo pl k ld d r) 4))) 5 li) 6 tl) 7 mo)))] := hD
  refine lv_dup hx hb dX3_digest_67 rfl ?_
  refine lv_bipush (v := 8) hx hb dX3_digest_68 (by decide) ?_
  refine lv_aload_n hx hb dX3_digest_70 rfl (lv_at hl 0 rfl) ?_
  have hPc := hP.sub (ws' := [(mm, .inr (3, [.int 0, .int (nI d), .int (nI r), .int ld, .int pl, .ref ao, .ref al, .int li, .int tl, .int mo, .ref aw, .ref aq, .int mn])), (ao, .inl (cI, 4, .inl fo)), (al, .inl (cI, 31, .inl fl))]) [0, 1, 2] rfl
  have hDc : va_D (fun q : Nat => L0 ≤ q) [(mm, .inr (3, [.int 0, .int (nI d), .int (nI r), .int ld, .int pl, .ref ao, .ref al, .int li, .int tl, .int mo, .ref aw, .ref aq, .int mn])), (ao, .inl (cI, 4, .inl fo)), (al, .inl (cI, 31, .inl fl))] := (hD.sub (ws' := [(mm, .inr (3, [.int 0, .int (nI d), .int (nI r), .int ld, .int pl, .ref ao, .ref al, .int li, .int tl, .int mo, .ref aw, .ref aq, .int mn])), (ao, .inl (cI, 4, .inl fo)), (al, .inl (cI, 31, .inl fl))]) [0, 1, 2] (by decide) rfl).weaken (fun _ z9 _ h9 => hAL _ h9)
  have hKc := hK.sub (tys' := [(cI, .int)]) [0] rfl
  refine c_callR (va_runV (As := []) (rest := [.int 8, .ref ra, .ref ra]) ⟨hx, hb, hml, hown, hts⟩ (q_greatest l D L0 cI mm ao al aw aq d r 0 ld pl li tl mo mn fo fl hd hr hex) (cwV 0 hts gX3_digest_X3_greatest rfl rfl rfl (by decide +kernel) ⟨Nat.le_of_ble_eq_true rfl, Nat.le_of_ble_eq_true rfl⟩) ⟨cP_blind, va_recv hKc hPc (ci := 3) (q0 := 0) rfl rfl, cP_of hPc hKc hDc (kE_at hE0 hAL hS)⟩ rfl rfl hl.1 rfl (lv_room (Nat.le_of_ble_eq_true rfl)) dX3_digest_71 ⟨Nat.le_of_ble_eq_true rfl, Nat.le_of_ble_eq_true rfl⟩) ?_
  show W _ _ _ _ _ _ _ _ _ _ _ _ _ _ _ (F0 m 74 ls [.int (nI (grN (fun k => safS fo fl pl (nI k) d r) 60)), .int 8, .ref ra, .ref ra])
  refine va_iast hx hb hK hP hD hS 3 0 rfl rfl (vp_in_nI (n := 8) (by decide) (by decide)) dX3_digest_74 (fun H locs hP hD hS => ?_)
  have hP : va_P D vwCl [(mm, .inr (3, [.int 0, .int (nI d), .int (nI r), .int ld, .int pl, .ref ao, .ref al, .int li, .int tl, .int mo, .ref aw, .ref aq, .int mn])), (ao, .inl (cI, 4, .inl fo)), (al, .inl (cI, 31, .inl fl)), (ra, .inl (cI, 9, .inl (upd (upd (upd (upd (upd (upd (upd (upd (upd (fun _ => 0) 0 (nI d)) 1 (nI r)) 2 ld) 3 pl) 4 (nI (wkN (fun k => strS fo pl k ld d r) 4))) 5 li) 6 tl) 7 mo) 8 (nI (grN (fun k => safS fo fl pl (nI k) d r) 60)))))] H := hP
  have hD : va_D A [(mm, .inr (3, [.int 0, .int (nI d), .int (nI r), .int ld, .int pl, .ref ao, .ref al, .int li, .int tl, .int mo, .ref aw, .ref aq, .int mn])), (ao, .inl (cI, 4, .inl fo)), (al, .inl (cI, 31, .inl fl)), (ra, .inl (cI, 9, .inl (upd (upd (upd (upd (upd (upd (upd (upd (upd (fun _ => 0) 0 (nI d)) 1 (nI r)) 2 ld) 3 pl) 4 (nI (wkN (fun k => strS fo pl k ld d r) 4))) 5 li) 6 tl) 7 mo) 8 (nI (grN (fun k => safS fo fl pl (nI k) d r) 60)))))] := hD
  refine lv_astore_n (lv' := [(1, .ref ra), (0, .ref mm)]) hx hb dX3_digest_75 rfl hl (by decide) rfl (fun ls hl => ?_)
  refine lv_ldc2 (v := 1907) hx hb hown (hts (.constantLong RX3 130 1907) (by decide +kernel)) dX3_digest_76 ?_
  refine lv_lstore_n (lv' := [(2, .long 1907), (1, .ref ra), (0, .ref mm)]) hx hb dX3_digest_79 rfl hl (by decide) rfl (fun ls hl => ?_)
  refine lv_aload_n hx hb dX3_digest_80 rfl (lv_at hl 1 rfl) ?_
  refine lv_astore (lv' := [(4, .ref ra), (2, .long 1907), (1, .ref ra), (0, .ref mm)]) hx hb dX3_digest_81 hl (by decide) rfl (fun ls hl => ?_)
  refine lv_aload hx hb dX3_digest_83 (lv_at hl 0 rfl) ?_
  refine va_alen hx hb hK hP 3 0 rfl rfl (v := 9) rfl dX3_digest_85 ?_
  refine lv_istore (lv' := [(5, .int 9), (4, .ref ra), (2, .long 1907), (1, .ref ra), (0, .ref mm)]) hx hb dX3_digest_86 hl (by decide) rfl (fun ls hl => ?_)
  refine lv_iconst (v := 0) hx hb dX3_digest_88 (by decide) ?_
  refine lv_istore (lv' := [(6, .int 0), (5, .int 9), (4, .ref ra), (2, .long 1907), (1, .ref ra), (0, .ref mm)]) hx hb dX3_digest_89 hl (by decide) rfl (fun ls hl => ?_)
  refine lv_iload hx hb dX3_digest_91 (lv_at hl 0 rfl) ?_
  refine lv_iload hx hb dX3_digest_93 (lv_at hl 1 rfl) ?_
  refine lv_icmp_ge (tgt := 121) hx hb dX3_digest_95 (by decide) (fun c_46 => absurd c_46 (by decide)) (fun _ => ?_)
  refine lv_aload hx hb dX3_digest_98 (lv_at hl 2 rfl) ?_
  refine lv_iload hx hb dX3_digest_100 (lv_at hl 0 rfl) ?_
  refine va_iald hx hb hK hP 3 0 rfl rfl (vp_in_nI (n := 0) (by decide) (by decide)) dX3_digest_102 ?_
  refine c_top (show ((upd (upd (upd (upd (upd (upd (upd (upd (upd (fun _ => 0) 0 (nI d)) 1 (nI r)) 2 ld) 3 pl) 4 (nI (wkN (fun k => strS fo pl k ld d r) 4))) 5 li) 6 tl) 7 mo) 8 (nI (grN (fun k => safS fo fl pl (nI k) d r) 60))) (0 : Int32).toNatClampNeg) = nI d from rfl) ?_
  refine lv_istore (lv' := [(7, .int (nI d)), (6, .int 0), (5, .int 9), (4, .ref ra), (2, .long 1907), (1, .ref ra), (0, .ref mm)]) hx hb dX3_digest_103 hl (by decide) rfl (fun ls hl => ?_)
  refine lv_lload_n hx hb dX3_digest_105 rfl (lv_at hl 4 rfl) ?_
  refine lv_ldc2 (v := 31) hx hb hown (hts (.constantLong RX3 132 31) (by decide +kernel)) dX3_digest_106 ?_
  refine lv_lmul hx hb dX3_digest_109 ?_
  refine lv_iload hx hb dX3_digest_110 (lv_at hl 0 rfl) ?_
  refine lv_i2l hx hb dX3_digest_112 rfl ?_
  refine lv_ladd hx hb dX3_digest_113 ?_
  refine lv_lstore_n (lv' := [(2, .long ((1907 * 31) + ((nI d).toInt64))), (7, .int (nI d)), (6, .int 0), (5, .int 9), (4, .ref ra), (1, .ref ra), (0, .ref mm)]) hx hb dX3_digest_114 rfl hl (by decide) rfl (fun ls hl => ?_)
  refine lv_iinc (v := 1) (lv' := [(6, .int 1), (2, .long ((1907 * 31) + ((nI d).toInt64))), (7, .int (nI d)), (5, .int 9), (4, .ref ra), (1, .ref ra), (0, .ref mm)]) hx hb dX3_digest_115 hl (k := 2) rfl (by decide) (by decide) rfl (fun ls hl => ?_)
  refine lv_goto (tgt := 91) hx hb dX3_digest_118 (by decide) ?_
  refine lv_iload hx hb dX3_digest_91 (lv_at hl 0 rfl) ?_
  refine lv_iload hx hb dX3_digest_93 (lv_at hl 3 rfl) ?_
  refine lv_icmp_ge (tgt := 121) hx hb dX3_digest_95 (by decide) (fun c_47 => absurd c_47 (by decide)) (fun _ => ?_)
  refine lv_aload hx hb dX3_digest_98 (lv_at hl 4 rfl) ?_
  refine lv_iload hx hb dX3_digest_100 (lv_at hl 0 rfl) ?_
  refine va_iald hx hb hK hP 3 0 rfl rfl (vp_in_nI (n := 1) (by decide) (by decide)) dX3_digest_102 ?_
  refine c_top (show ((upd (upd (upd (upd (upd (upd (upd (upd (upd (fun _ => 0) 0 (nI d)) 1 (nI r)) 2 ld) 3 pl) 4 (nI (wkN (fun k => strS fo pl k ld d r) 4))) 5 li) 6 tl) 7 mo) 8 (nI (grN (fun k => safS fo fl pl (nI k) d r) 60))) (1 : Int32).toNatClampNeg) = nI r from rfl) ?_
  refine lv_istore (lv' := [(7, .int (nI r)), (6, .int 1), (2, .long ((1907 * 31) + ((nI d).toInt64))), (5, .int 9), (4, .ref ra), (1, .ref ra), (0, .ref mm)]) hx hb dX3_digest_103 hl (by decide) rfl (fun ls hl => ?_)
  refine lv_lload_n hx hb dX3_digest_105 rfl (lv_at hl 2 rfl) ?_
  refine lv_ldc2 (v := 31) hx hb hown (hts (.constantLong RX3 132 31) (by decide +kernel)) dX3_digest_106 ?_
  refine lv_lmul hx hb dX3_digest_109 ?_
  refine lv_iload hx hb dX3_digest_110 (lv_at hl 0 rfl) ?_
  refine lv_i2l hx hb dX3_digest_112 rfl ?_
  refine lv_ladd hx hb dX3_digest_113 ?_
  refine lv_lstore_n (lv' := [(2, .long ((((1907 * 31) + ((nI d).toInt64)) * 31) + ((nI r).toInt64))), (7, .int (nI r)), (6, .int 1), (5, .int 9), (4, .ref ra), (1, .ref ra), (0, .ref mm)]) hx hb dX3_digest_114 rfl hl (by decide) rfl (fun ls hl => ?_)
  refine lv_iinc (v := 2) (lv' := [(6, .int 2), (2, .long ((((1907 * 31) + ((nI d).toInt64)) * 31) + ((nI r).toInt64))), (7, .int (nI r)), (5, .int 9), (4, .ref ra), (1, .ref ra), (0, .ref mm)]) hx hb dX3_digest_115 hl (k := 2) rfl (by decide) (by decide) rfl (fun ls hl => ?_)
  refine lv_goto (tgt := 91) hx hb dX3_digest_118 (by decide) ?_
  refine lv_iload hx hb dX3_digest_91 (lv_at hl 0 rfl) ?_
  refine lv_iload hx hb dX3_digest_93 (lv_at hl 3 rfl) ?_
  refine lv_icmp_ge (tgt := 121) hx hb dX3_digest_95 (by decide) (fun c_48 => absurd c_48 (by decide)) (fun _ => ?_)
  refine lv_aload hx hb dX3_digest_98 (lv_at hl 4 rfl) ?_
  refine lv_iload hx hb dX3_digest_100 (lv_at hl 0 rfl) ?_
  refine va_iald hx hb hK hP 3 0 rfl rfl (vp_in_nI (n := 2) (by decide) (by decide)) dX3_digest_102 ?_
  refine c_top (show ((upd (upd (upd (upd (upd (upd (upd (upd (upd (fun _ => 0) 0 (nI d)) 1 (nI r)) 2 ld) 3 pl) 4 (nI (wkN (fun k => strS fo pl k ld d r) 4))) 5 li) 6 tl) 7 mo) 8 (nI (grN (fun k => safS fo fl pl (nI k) d r) 60))) (2 : Int32).toNatClampNeg) = ld from rfl) ?_
  refine lv_istore (lv' := [(7, .int ld), (6, .int 2), (2, .long ((((1907 * 31) + ((nI d).toInt64)) * 31) + ((nI r).toInt64))), (5, .int 9), (4, .ref ra), (1, .ref ra), (0, .ref mm)]) hx hb dX3_digest_103 hl (by decide) rfl (fun ls hl => ?_)
  refine lv_lload_n hx hb dX3_digest_105 rfl (lv_at hl 2 rfl) ?_
  refine lv_ldc2 (v := 31) hx hb hown (hts (.constantLong RX3 132 31) (by decide +kernel)) dX3_digest_106 ?_
  refine lv_lmul hx hb dX3_digest_109 ?_
  refine lv_iload hx hb dX3_digest_110 (lv_at hl 0 rfl) ?_
  refine lv_i2l hx hb dX3_digest_112 rfl ?_
  refine lv_ladd hx hb dX3_digest_113 ?_
  refine lv_lstore_n (lv' := [(2, .long ((((((1907 * 31) + ((nI d).toInt64)) * 31) + ((nI r).toInt64)) * 31) + ld.toInt64)), (7, .int ld), (6, .int 2), (5, .int 9), (4, .ref ra), (1, .ref ra), (0, .ref mm)]) hx hb dX3_digest_114 rfl hl (by decide) rfl (fun ls hl => ?_)
  refine lv_iinc (v := 3) (lv' := [(6, .int 3), (2, .long ((((((1907 * 31) + ((nI d).toInt64)) * 31) + ((nI r).toInt64)) * 31) + ld.toInt64)), (7, .int ld), (5, .int 9), (4, .ref ra), (1, .ref ra), (0, .ref mm)]) hx hb dX3_digest_115 hl (k := 2) rfl (by decide) (by decide) rfl (fun ls hl => ?_)
  refine lv_goto (tgt := 91) hx hb dX3_digest_118 (by decide) ?_
  refine lv_iload hx hb dX3_digest_91 (lv_at hl 0 rfl) ?_
  refine lv_iload hx hb dX3_digest_93 (lv_at hl 3 rfl) ?_
  refine lv_icmp_ge (tgt := 121) hx hb dX3_digest_95 (by decide) (fun c_49 => absurd c_49 (by decide)) (fun _ => ?_)
  refine lv_aload hx hb dX3_digest_98 (lv_at hl 4 rfl) ?_
  refine lv_iload hx hb dX3_digest_100 (lv_at hl 0 rfl) ?_
  refine va_iald hx hb hK hP 3 0 rfl rfl (vp_in_nI (n := 3) (by decide) (by decide)) dX3_digest_102 ?_
  refine c_top (show ((upd (upd (upd (upd (upd (upd (upd (upd (upd (fun _ => 0) 0 (nI d)) 1 (nI r)) 2 ld) 3 pl) 4 (nI (wkN (fun k => strS fo pl k ld d r) 4))) 5 li) 6 tl) 7 mo) 8 (nI (grN (fun k => safS fo fl pl (nI k) d r) 60))) (3 : Int32).toNatClampNeg) = pl from rfl) ?_
  refine lv_istore (lv' := [(7, .int pl), (6, .int 3), (2, .long ((((((1907 * 31) + ((nI d).toInt64)) * 31) + ((nI r).toInt64)) * 31) + ld.toInt64)), (5, .int 9), (4, .ref ra), (1, .ref ra), (0, .ref mm)]) hx hb dX3_digest_103 hl (by decide) rfl (fun ls hl => ?_)
  refine lv_lload_n hx hb dX3_digest_105 rfl (lv_at hl 2 rfl) ?_
  refine lv_ldc2 (v := 31) hx hb hown (hts (.constantLong RX3 132 31) (by decide +kernel)) dX3_digest_106 ?_
  refine lv_lmul hx hb dX3_digest_109 ?_
  refine lv_iload hx hb dX3_digest_110 (lv_at hl 0 rfl) ?_
  refine lv_i2l hx hb dX3_digest_112 rfl ?_
  refine lv_ladd hx hb dX3_digest_113 ?_
  refine lv_lstore_n (lv' := [(2, .long ((((((((1907 * 31) + ((nI d).toInt64)) * 31) + ((nI r).toInt64)) * 31) + ld.toInt64) * 31) + pl.toInt64)), (7, .int pl), (6, .int 3), (5, .int 9), (4, .ref ra), (1, .ref ra), (0, .ref mm)]) hx hb dX3_digest_114 rfl hl (by decide) rfl (fun ls hl => ?_)
  refine lv_iinc (v := 4) (lv' := [(6, .int 4), (2, .long ((((((((1907 * 31) + ((nI d).toInt64)) * 31) + ((nI r).toInt64)) * 31) + ld.toInt64) * 31) + pl.toInt64)), (7, .int pl), (5, .int 9), (4, .ref ra), (1, .ref ra), (0, .ref mm)]) hx hb dX3_digest_115 hl (k := 2) rfl (by decide) (by decide) rfl (fun ls hl => ?_)
  refine lv_goto (tgt := 91) hx hb dX3_digest_118 (by decide) ?_
  refine lv_iload hx hb dX3_digest_91 (lv_at hl 0 rfl) ?_
  refine lv_iload hx hb dX3_digest_93 (lv_at hl 3 rfl) ?_
  refine lv_icmp_ge (tgt := 121) hx hb dX3_digest_95 (by decide) (fun c_50 => absurd c_50 (by decide)) (fun _ => ?_)
  refine lv_aload hx hb dX3_digest_98 (lv_at hl 4 rfl) ?_
  refine lv_iload hx hb dX3_digest_100 (lv_at hl 0 rfl) ?_
  refine va_iald hx hb hK hP 3 0 rfl rfl (vp_in_nI (n := 4) (by decide) (by decide)) dX3_digest_102 ?_
  refine c_top (show ((upd (upd (upd (upd (upd (upd (upd (upd (upd (fun _ => 0) 0 (nI d)) 1 (nI r)) 2 ld) 3 pl) 4 (nI (wkN (fun k => strS fo pl k ld d r) 4))) 5 li) 6 tl) 7 mo) 8 (nI (grN (fun k => safS fo fl pl (nI k) d r) 60))) (4 : Int32).toNatClampNeg) = nI (wkN (fun k => strS fo pl k ld d r) 4) from rfl) ?_
  refine lv_istore (lv' := [(7, .int (nI (wkN (fun k => strS fo pl k ld d r) 4))), (6, .int 4), (2, .long ((((((((1907 * 31) + ((nI d).toInt64)) * 31) + ((nI r).toInt64)) * 31) + ld.toInt64) * 31) + pl.toInt64)), (5, .int 9), (4, .ref ra), (1, .ref ra), (0, .ref mm)]) hx hb dX3_digest_103 hl (by decide) rfl (fun ls hl => ?_)
  refine lv_lload_n hx hb dX3_digest_105 rfl (lv_at hl 2 rfl) ?_
  refine lv_ldc2 (v := 31) hx hb hown (hts (.constantLong RX3 132 31) (by decide +kernel)) dX3_digest_106 ?_
  refine lv_lmul hx hb dX3_digest_109 ?_
  refine lv_iload hx hb dX3_digest_110 (lv_at hl 0 rfl) ?_
  refine lv_i2l hx hb dX3_digest_112 rfl ?_
  refine lv_ladd hx hb dX3_digest_113 ?_
  refine lv_lstore_n (lv' := [(2, .long ((((((((((1907 * 31) + ((nI d).toInt64)) * 31) + ((nI r).toInt64)) * 31) + ld.toInt64) * 31) + pl.toInt64) * 31) + ((nI (wkN (fun k => strS fo pl k ld d r) 4)).toInt64))), (7, .int (nI (wkN (fun k => strS fo pl k ld d r) 4))), (6, .int 4), (5, .int 9), (4, .ref ra), (1, .ref ra), (0, .ref mm)]) hx hb dX3_digest_114 rfl hl (by decide) rfl (fun ls hl => ?_)
  refine lv_iinc (v := 5) (lv' := [(6, .int 5), (2, .long ((((((((((1907 * 31) + ((nI d).toInt64)) * 31) + ((nI r).toInt64)) * 31) + ld.toInt64) * 31) + pl.toInt64) * 31) + ((nI (wkN (fun k => strS fo pl k ld d r) 4)).toInt64))), (7, .int (nI (wkN (fun k => strS fo pl k ld d r) 4))), (5, .int 9), (4, .ref ra), (1, .ref ra), (0, .ref mm)]) hx hb dX3_digest_115 hl (k := 2) rfl (by decide) (by decide) rfl (fun ls hl => ?_)
  refine lv_goto (tgt := 91) hx hb dX3_digest_118 (by decide) ?_
  refine lv_iload hx hb dX3_digest_91 (lv_at hl 0 rfl) ?_
  refine lv_iload hx hb dX3_digest_93 (lv_at hl 3 rfl) ?_
  refine lv_icmp_ge (tgt := 121) hx hb dX3_digest_95 (by decide) (fun c_51 => absurd c_51 (by decide)) (fun _ => ?_)
  refine lv_aload hx hb dX3_digest_98 (lv_at hl 4 rfl) ?_
  refine lv_iload hx hb dX3_digest_100 (lv_at hl 0 rfl) ?_
  refine va_iald hx hb hK hP 3 0 rfl rfl (vp_in_nI (n := 5) (by decide) (by decide)) dX3_digest_102 ?_
  refine c_top (show ((upd (upd (upd (upd (upd (upd (upd (upd (upd (fun _ => 0) 0 (nI d)) 1 (nI r)) 2 ld) 3 pl) 4 (nI (wkN (fun k => strS fo pl k ld d r) 4))) 5 li) 6 tl) 7 mo) 8 (nI (grN (fun k => safS fo fl pl (nI k) d r) 60))) (5 : Int32).toNatClampNeg) = li from rfl) ?_
  refine lv_istore (lv' := [(7, .int li), (6, .int 5), (2, .long ((((((((((1907 * 31) + ((nI d).toInt64)) * 31) + ((nI r).toInt64)) * 31) + ld.toInt64) * 31) + pl.toInt64) * 31) + ((nI (wkN (fun k => strS fo pl k ld d r) 4)).toInt64))), (5, .int 9), (4, .ref ra), (1, .ref ra), (0, .ref mm)]) hx hb dX3_digest_103 hl (by decide) rfl (fun ls hl => ?_)
  refine lv_lload_n hx hb dX3_digest_105 rfl (lv_at hl 2 rfl) ?_
  refine lv_ldc2 (v := 31) hx hb hown (hts (.constantLong RX3 132 31) (by decide +kernel)) dX3_digest_106 ?_
  refine lv_lmul hx hb dX3_digest_109 ?_
  refine lv_iload hx hb dX3_digest_110 (lv_at hl 0 rfl) ?_
  refine lv_i2l hx hb dX3_digest_112 rfl ?_
  refine lv_ladd hx hb dX3_digest_113 ?_
  refine lv_lstore_n (lv' := [(2, .long ((((((((((((1907 * 31) + ((nI d).toInt64)) * 31) + ((nI r).toInt64)) * 31) + ld.toInt64) * 31) + pl.toInt64) * 31) + ((nI (wkN (fun k => strS fo pl k ld d r) 4)).toInt64)) * 31) + li.toInt64)), (7, .int li), (6, .int 5), (5, .int 9), (4, .ref ra), (1, .ref ra), (0, .ref mm)]) hx hb dX3_digest_114 rfl hl (by decide) rfl (fun ls hl => ?_)
  refine lv_iinc (v := 6) (lv' := [(6, .int 6), (2, .long ((((((((((((1907 * 31) + ((nI d).toInt64)) * 31) + ((nI r).toInt64)) * 31) + ld.toInt64) * 31) + pl.toInt64) * 31) + ((nI (wkN (fun k => strS fo pl k ld d r) 4)).toInt64)) * 31) + li.toInt64)), (7, .int li), (5, .int 9), (4, .ref ra), (1, .ref ra), (0, .ref mm)]) hx hb dX3_digest_115 hl (k := 2) rfl (by decide) (by decide) rfl (fun ls hl => ?_)
  refine lv_goto (tgt := 91) hx hb dX3_digest_118 (by decide) ?_
  refine lv_iload hx hb dX3_digest_91 (lv_at hl 0 rfl) ?_
  refine lv_iload hx hb dX3_digest_93 (lv_at hl 3 rfl) ?_
  refine lv_icmp_ge (tgt := 121) hx hb dX3_digest_95 (by decide) (fun c_52 => absurd c_52 (by decide)) (fun _ => ?_)
  refine lv_aload hx hb dX3_digest_98 (lv_at hl 4 rfl) ?_
  refine lv_iload hx hb dX3_digest_100 (lv_at hl 0 rfl) ?_
  refine va_iald hx hb hK hP 3 0 rfl rfl (vp_in_nI (n := 6) (by decide) (by decide)) dX3_digest_102 ?_
  refine c_top (show ((upd (upd (upd (upd (upd (upd (upd (upd (upd (fun _ => 0) 0 (nI d)) 1 (nI r)) 2 ld) 3 pl) 4 (nI (wkN (fun k => strS fo pl k ld d r) 4))) 5 li) 6 tl) 7 mo) 8 (nI (grN (fun k => safS fo fl pl (nI k) d r) 60))) (6 : Int32).toNatClampNeg) = tl from rfl) ?_
  refine lv_istore (lv' := [(7, .int tl), (6, .int 6), (2, .long ((((((((((((1907 * 31) + ((nI d).toInt64)) * 31) + ((nI r).toInt64)) * 31) + ld.toInt64) * 31) + pl.toInt64) * 31) + ((nI (wkN (fun k => strS fo pl k ld d r) 4)).toInt64)) * 31) + li.toInt64)), (5, .int 9), (4, .ref ra), (1, .ref ra), (0, .ref mm)]) hx hb dX3_digest_103 hl (by decide) rfl (fun ls hl => ?_)
  refine lv_lload_n hx hb dX3_digest_105 rfl (lv_at hl 2 rfl) ?_
  refine lv_ldc2 (v := 31) hx hb hown (hts (.constantLong RX3 132 31) (by decide +kernel)) dX3_digest_106 ?_
  refine lv_lmul hx hb dX3_digest_109 ?_
  refine lv_iload hx hb dX3_digest_110 (lv_at hl 0 rfl) ?_
  refine lv_i2l hx hb dX3_digest_112 rfl ?_
  refine lv_ladd hx hb dX3_digest_113 ?_
  refine lv_lstore_n (lv' := [(2, .long ((((((((((((((1907 * 31) + ((nI d).toInt64)) * 31) + ((nI r).toInt64)) * 31) + ld.toInt64) * 31) + pl.toInt64) * 31) + ((nI (wkN (fun k => strS fo pl k ld d r) 4)).toInt64)) * 31) + li.toInt64) * 31) + tl.toInt64)), (7, .int tl), (6, .int 6), (5, .int 9), (4, .ref ra), (1, .ref ra), (0, .ref mm)]) hx hb dX3_digest_114 rfl hl (by decide) rfl (fun ls hl => ?_)
  refine lv_iinc (v := 7) (lv' := [(6, .int 7), (2, .long ((((((((((((((1907 * 31) + ((nI d).toInt64)) * 31) + ((nI r).toInt64)) * 31) + ld.toInt64) * 31) + pl.toInt64) * 31) + ((nI (wkN (fun k => strS fo pl k ld d r) 4)).toInt64)) * 31) + li.toInt64) * 31) + tl.toInt64)), (7, .int tl), (5, .int 9), (4, .ref ra), (1, .ref ra), (0, .ref mm)]) hx hb dX3_digest_115 hl (k := 2) rfl (by decide) (by decide) rfl (fun ls hl => ?_)
  refine lv_goto (tgt := 91) hx hb dX3_digest_118 (by decide) ?_
  refine lv_iload hx hb dX3_digest_91 (lv_at hl 0 rfl) ?_
  refine lv_iload hx hb dX3_digest_93 (lv_at hl 3 rfl) ?_
  refine lv_icmp_ge (tgt := 121) hx hb dX3_digest_95 (by decide) (fun c_53 => absurd c_53 (by decide)) (fun _ => ?_)
  refine lv_aload hx hb dX3_digest_98 (lv_at hl 4 rfl) ?_
  refine lv_iload hx hb dX3_digest_100 (lv_at hl 0 rfl) ?_
  refine va_iald hx hb hK hP 3 0 rfl rfl (vp_in_nI (n := 7) (by decide) (by decide)) dX3_digest_102 ?_
  refine c_top (show ((upd (upd (upd (upd (upd (upd (upd (upd (upd (fun _ => 0) 0 (nI d)) 1 (nI r)) 2 ld) 3 pl) 4 (nI (wkN (fun k => strS fo pl k ld d r) 4))) 5 li) 6 tl) 7 mo) 8 (nI (grN (fun k => safS fo fl pl (nI k) d r) 60))) (7 : Int32).toNatClampNeg) = mo from rfl) ?_
  refine lv_istore (lv' := [(7, .int mo), (6, .int 7), (2, .long ((((((((((((((1907 * 31) + ((nI d).toInt64)) * 31) + ((nI r).toInt64)) * 31) + ld.toInt64) * 31) + pl.toInt64) * 31) + ((nI (wkN (fun k => strS fo pl k ld d r) 4)).toInt64)) * 31) + li.toInt64) * 31) + tl.toInt64)), (5, .int 9), (4, .ref ra), (1, .ref ra), (0, .ref mm)]) hx hb dX3_digest_103 hl (by decide) rfl (fun ls hl => ?_)
  refine lv_lload_n hx hb dX3_digest_105 rfl (lv_at hl 2 rfl) ?_
  refine lv_ldc2 (v := 31) hx hb hown (hts (.constantLong RX3 132 31) (by decide +kernel)) dX3_digest_106 ?_
  refine lv_lmul hx hb dX3_digest_109 ?_
  refine lv_iload hx hb dX3_digest_110 (lv_at hl 0 rfl) ?_
  refine lv_i2l hx hb dX3_digest_112 rfl ?_
  refine lv_ladd hx hb dX3_digest_113 ?_
  refine lv_lstore_n (lv' := [(2, .long ((((((((((((((((1907 * 31) + ((nI d).toInt64)) * 31) + ((nI r).toInt64)) * 31) + ld.toInt64) * 31) + pl.toInt64) * 31) + ((nI (wkN (fun k => strS fo pl k ld d r) 4)).toInt64)) * 31) + li.toInt64) * 31) + tl.toInt64) * 31) + mo.toInt64)), (7, .int mo), (6, .int 7), (5, .int 9), (4, .ref ra), (1, .ref ra), (0, .ref mm)]) hx hb dX3_digest_114 rfl hl (by decide) rfl (fun ls hl => ?_)
  refine lv_iinc (v := 8) (lv' := [(6, .int 8), (2, .long ((((((((((((((((1907 * 31) + ((nI d).toInt64)) * 31) + ((nI r).toInt64)) * 31) + ld.toInt64) * 31) + pl.toInt64) * 31) + ((nI (wkN (fun k => strS fo pl k ld d r) 4)).toInt64)) * 31) + li.toInt64) * 31) + tl.toInt64) * 31) + mo.toInt64)), (7, .int mo), (5, .int 9), (4, .ref ra), (1, .ref ra), (0, .ref mm)]) hx hb dX3_digest_115 hl (k := 2) rfl (by decide) (by decide) rfl (fun ls hl => ?_)
  refine lv_goto (tgt := 91) hx hb dX3_digest_118 (by decide) ?_
  refine lv_iload hx hb dX3_digest_91 (lv_at hl 0 rfl) ?_
  refine lv_iload hx hb dX3_digest_93 (lv_at hl 3 rfl) ?_
  refine lv_icmp_ge (tgt := 121) hx hb dX3_digest_95 (by decide) (fun c_54 => absurd c_54 (by decide)) (fun _ => ?_)
  refine lv_aload hx hb dX3_digest_98 (lv_at hl 4 rfl) ?_
  refine lv_iload hx hb dX3_digest_100 (lv_at hl 0 rfl) ?_
  refine va_iald hx hb hK hP 3 0 rfl rfl (vp_in_nI (n := 8) (by decide) (by decide)) dX3_digest_102 ?_
  refine c_top (show ((upd (upd (upd (upd (upd (upd (upd (upd (upd (fun _ => 0) 0 (nI d)) 1 (nI r)) 2 ld) 3 pl) 4 (nI (wkN (fun k => strS fo pl k ld d r) 4))) 5 li) 6 tl) 7 mo) 8 (nI (grN (fun k => safS fo fl pl (nI k) d r) 60))) (8 : Int32).toNatClampNeg) = nI (grN (fun k => safS fo fl pl (nI k) d r) 60) from rfl) ?_
  refine lv_istore (lv' := [(7, .int (nI (grN (fun k => safS fo fl pl (nI k) d r) 60))), (6, .int 8), (2, .long ((((((((((((((((1907 * 31) + ((nI d).toInt64)) * 31) + ((nI r).toInt64)) * 31) + ld.toInt64) * 31) + pl.toInt64) * 31) + ((nI (wkN (fun k => strS fo pl k ld d r) 4)).toInt64)) * 31) + li.toInt64) * 31) + tl.toInt64) * 31) + mo.toInt64)), (5, .int 9), (4, .ref ra), (1, .ref ra), (0, .ref mm)]) hx hb dX3_digest_103 hl (by decide) rfl (fun ls hl => ?_)
  refine lv_lload_n hx hb dX3_digest_105 rfl (lv_at hl 2 rfl) ?_
  refine lv_ldc2 (v := 31) hx hb hown (hts (.constantLong RX3 132 31) (by decide +kernel)) dX3_digest_106 ?_
  refine lv_lmul hx hb dX3_digest_109 ?_
  refine lv_iload hx hb dX3_digest_110 (lv_at hl 0 rfl) ?_
  refine lv_i2l hx hb dX3_digest_112 rfl ?_
  refine lv_ladd hx hb dX3_digest_113 ?_
  refine lv_lstore_n (lv' := [(2, .long ((((((((((((((((((1907 * 31) + ((nI d).toInt64)) * 31) + ((nI r).toInt64)) * 31) + ld.toInt64) * 31) + pl.toInt64) * 31) + ((nI (wkN (fun k => strS fo pl k ld d r) 4)).toInt64)) * 31) + li.toInt64) * 31) + tl.toInt64) * 31) + mo.toInt64) * 31) + ((nI (grN (fun k => safS fo fl pl (nI k) d r) 60)).toInt64))), (7, .int (nI (grN (fun k => safS fo fl pl (nI k) d r) 60))), (6, .int 8), (5, .int 9), (4, .ref ra), (1, .ref ra), (0, .ref mm)]) hx hb dX3_digest_114 rfl hl (by decide) rfl (fun ls hl => ?_)
  refine lv_iinc (v := 9) (lv' := [(6, .int 9), (2, .long ((((((((((((((((((1907 * 31) + ((nI d).toInt64)) * 31) + ((nI r).toInt64)) * 31) + ld.toInt64) * 31) + pl.toInt64) * 31) + ((nI (wkN (fun k => strS fo pl k ld d r) 4)).toInt64)) * 31) + li.toInt64) * 31) + tl.toInt64) * 31) + mo.toInt64) * 31) + ((nI (grN (fun k => safS fo fl pl (nI k) d r) 60)).toInt64))), (7, .int (nI (grN (fun k => safS fo fl pl (nI k) d r) 60))), (5, .int 9), (4, .ref ra), (1, .ref ra), (0, .ref mm)]) hx hb dX3_digest_115 hl (k := 2) rfl (by decide) (by decide) rfl (fun ls hl => ?_)
  refine lv_goto (tgt := 91) hx hb dX3_digest_118 (by decide) ?_
  refine lv_iload hx hb dX3_digest_91 (lv_at hl 0 rfl) ?_
  refine lv_iload hx hb dX3_digest_93 (lv_at hl 3 rfl) ?_
  refine lv_icmp_ge (tgt := 121) hx hb dX3_digest_95 (by decide) (fun _ => ?_) (fun c_55 => absurd (by decide) c_55)
  refine lv_iconst (v := 0) hx hb dX3_digest_121 (by decide) ?_
  refine lv_istore (lv' := [(4, .int 0), (6, .int 9), (2, .long ((((((((((((((((((1907 * 31) + ((nI d).toInt64)) * 31) + ((nI r).toInt64)) * 31) + ld.toInt64) * 31) + pl.toInt64) * 31) + ((nI (wkN (fun k => strS fo pl k ld d r) 4)).toInt64)) * 31) + li.toInt64) * 31) + tl.toInt64) * 31) + mo.toInt64) * 31) + ((nI (grN (fun k => safS fo fl pl (nI k) d r) 60)).toInt64))), (7, .int (nI (grN (fun k => safS fo fl pl (nI k) d r) 60))), (5, .int 9), (1, .ref ra), (0, .ref mm)]) hx hb dX3_digest_122 hl (by decide) rfl (fun ls hl => ?_)
  have hl : lv_has ls 8 [(4, .int 0), (6, .int 9), (2, .long (dgO fo (fun k => strS fo pl k ld d r) 0 (digH d r ld pl (wkN (fun k => strS fo pl k ld d r) 4) li tl mo (grN (fun k => safS fo fl pl (nI k) d r) 60)))), (7, .int (nI (grN (fun k => safS fo fl pl (nI k) d r) 60))), (5, .int 9), (1, .ref ra), (0, .ref mm)] := hl
  have hl : lv_has ls 8 [(4, .int (nI 0)), (6, .int 9), (2, .long (dgO fo (fun k => strS fo pl k ld d r) 0 (digH d r ld pl (wkN (fun k => strS fo pl k ld d r) 4) li tl mo (grN (fun k => safS fo fl pl (nI k) d r) 60)))), (7, .int (nI (grN (fun k => safS fo fl pl (nI k) d r) 60))), (5, .int 9), (1, .ref ra), (0, .ref mm)] := (show 0 = nI 0 from rfl) ▸ hl
  have loop2 : ∀ (n : Nat) (i : Nat) (D2 : Int64) (H : Heap) (locs : List Loc) (ls : Array Slot), i + n = 31 → 3 ≤ i → dgR fl (fun z => nI (fb_ct (fun k => safS fo fl pl 5 k z) 8)) n i D2 = dgR fl (fun z => nI (fb_ct (fun k => safS fo fl pl 5 k z) 8)) 28 3 (dgO fo (fun k => strS fo pl k ld d r) 4 (digH d r ld pl (wkN (fun k => strS fo pl k ld d r) 4) li tl mo (grN (fun k => safS fo fl pl (nI k) d r) 60))) → lv_has ls 8 [(4, .int (nI i)), (2, .long D2), (0, .ref mm)] → va_P D vwCl [(mm, .inr (3, [.int 0, .int (nI d), .int (nI r), .int ld, .int pl, .ref ao, .ref al, .int li, .int tl, .int mo, .ref aw, .ref aq, .int mn])), (ao, .inl (cI, 4, .inl fo)), (al, .inl (cI, 31, .inl fl)), (ra, .inl (cI, 9, .inl (upd (upd (upd (upd (upd (upd (upd (upd (upd (fun _ => 0) 0 (nI d)) 1 (nI r)) 2 ld) 3 pl) 4 (nI (wkN (fun k => strS fo pl k ld d r) 4))) 5 li) 6 tl) 7 mo) 8 (nI (grN (fun k => safS fo fl pl (nI k) d r) 60)))))] H → va_D A [(mm, .inr (3, [.int 0, .int (nI d), .int (nI r), .int ld, .int pl, .ref ao, .ref al, .int li, .int tl, .int mo, .ref aw, .ref aq, .int mn])), (ao, .inl (cI, 4, .inl fo)), (al, .inl (cI, 31, .inl fl)), (ra, .inl (cI, 9, .inl (upd (upd (upd (upd (upd (upd (upd (upd (upd (fun _ => 0) 0 (nI d)) 1 (nI r)) 2 ld) 3 pl) 4 (nI (wkN (fun k => strS fo pl k ld d r) 4))) 5 li) 6 tl) 7 mo) 8 (nI (grN (fun k => safS fo fl pl (nI k) d r) 60)))))] → va_S A s.heap H locs → W p l e (headSpec wsX3_digest ({ frames := 4, cells := 1, slots := 9, locals := 105 })).room s m ([.ref mm]).toArray below meth c H locs (0 + 1) (0 + 9) (MQ below (cB (some (.long (digS d r ld li tl mo pl fo fl))) (fun H => va_P D vwCl [(mm, .inr (3, [.int 0, .int (nI d), .int (nI r), .int ld, .int pl, .ref ao, .ref al, .int li, .int tl, .int mo, .ref aw, .ref aq, .int mn])), (ao, .inl (cI, 4, .inl fo)), (al, .inl (cI, 31, .inl fl))] H) A) ([.ref mm]).toArray s 1 9 A) (F0 m 166 ls []) := by
    intro n
    induction n with
    | zero =>
      intro i D2 H locs ls hn h3 hG hl hP hD hS
      have hi : i = 31 := by omega
      rw [hi] at hl hG
      refine lv_iload hx hb dX3_digest_166 (lv_at hl 0 rfl) ?_
      refine lv_bipush (v := 30) hx hb dX3_digest_168 (by decide) ?_
      refine lv_icmp_gt (tgt := 207) hx hb dX3_digest_170 (by decide) (fun _ => ?_) (fun c_56 => absurd (by decide) c_56)
      refine lv_lload_n hx hb dX3_digest_207 rfl (lv_at hl 1 rfl) ?_
      have hP := hP.sub (ws' := [(mm, .inr (3, [.int 0, .int (nI d), .int (nI r), .int ld, .int pl, .ref ao, .ref al, .int li, .int tl, .int mo, .ref aw, .ref aq, .int mn])), (ao, .inl (cI, 4, .inl fo)), (al, .inl (cI, 31, .inl fl))]) [0, 1, 2] rfl
      exact W.lret (v := D2) hx hb hRt (fun t ht hW => ⟨⟨by rw [digS, ← hG]; rfl, by rw [ht]; exact hP⟩, hS.F ht⟩) hS.2.2 dX3_digest_208
    | succ n ih =>
      intro i D2 H locs ls hn h3 hG hl hP hD hS
      refine lv_iload hx hb dX3_digest_166 (lv_at hl 0 rfl) ?_
      refine lv_bipush (v := 30) hx hb dX3_digest_168 (by decide) ?_
      refine lv_icmp_gt (tgt := 207) hx hb dX3_digest_170 (by decide) (fun c_57 => absurd c_57 (Int32.not_lt.mpr (nI_le (b := 30) (by omega) (by decide)))) (fun _ => ?_)
      refine lv_lload_n hx hb dX3_digest_173 rfl (lv_at hl 1 rfl) ?_
      refine lv_ldc2 (v := 31) hx hb hown (hts (.constantLong RX3 132 31) (by decide +kernel)) dX3_digest_174 ?_
      refine lv_lmul hx hb dX3_digest_177 ?_
      refine lv_aload_n hx hb dX3_digest_178 rfl (lv_at hl 2 rfl) ?_
      refine va_get (D := D) (ci := 3) (v := .ref al) (C := RX3) (T := TX3) (N := 13) hx hb hts hiX3 hown hK hP 0 rfl rfl 6 (by decide) (hts (.fieldLink RX3 17 "CraneReachModel" "limit" "[I") (by decide +kernel)) (fun _ h9 => h9) rfl dX3_digest_179 ?_
      refine lv_iload hx hb dX3_digest_182 (lv_at hl 0 rfl) ?_
      refine va_iald hx hb hK hP 2 0 rfl rfl (vp_in_nI (by omega) (by decide)) dX3_digest_184 ?_
      refine c_top (show (fl (nI i).toNatClampNeg) = fl i from by rw [nI_clamp (by omega)]) ?_
      refine lv_i2l hx hb dX3_digest_185 rfl ?_
      refine lv_ladd hx hb dX3_digest_186 ?_
      refine lv_ldc2 (v := 31) hx hb hown (hts (.constantLong RX3 132 31) (by decide +kernel)) dX3_digest_187 ?_
      refine lv_lmul hx hb dX3_digest_190 ?_
      refine lv_aload_n hx hb dX3_digest_191 rfl (lv_at hl 2 rfl) ?_
      refine lv_iconst (v := 5) hx hb dX3_digest_192 (by decide) ?_
      refine lv_iload hx hb dX3_digest_193 (lv_at hl 0 rfl) ?_
      have hPc := hP.sub (ws' := [(mm, .inr (3, [.int 0, .int (nI d), .int (nI r), .int ld, .int pl, .ref ao, .ref al, .int li, .int tl, .int mo, .ref aw, .ref aq, .int mn])), (ao, .inl (cI, 4, .inl fo)), (al, .inl (cI, 31, .inl fl))]) [0, 1, 2] rfl
      have hDc : va_D (fun q : Nat => L0 ≤ q) [(mm, .inr (3, [.int 0, .int (nI d), .int (nI r), .int ld, .int pl, .ref ao, .ref al, .int li, .int tl, .int mo, .ref aw, .ref aq, .int mn])), (ao, .inl (cI, 4, .inl fo)), (al, .inl (cI, 31, .inl fl))] := (hD.sub (ws' := [(mm, .inr (3, [.int 0, .int (nI d), .int (nI r), .int ld, .int pl, .ref ao, .ref al, .int li, .int tl, .int mo, .ref aw, .ref aq, .int mn])), (ao, .inl (cI, 4, .inl fo)), (al, .inl (cI, 31, .inl fl))]) [0, 1, 2] (by decide) rfl).weaken (fun _ z9 _ h9 => hAL _ h9)
      have hKc := hK.sub (tys' := [(cI, .int)]) [0] rfl
      refine c_callR (va_runV (As := [.int 5, .int (nI i)]) (rest := [.long (((D2 * 31) + ((fl i).toInt64)) * 31)]) ⟨hx, hb, hml, hown, hts⟩ (q_safeAround l D L0 cI mm ao al aw aq d r 0 ld pl li tl mo mn fo fl 5 i (by omega)) (cwV 2 hts gX3_digest_X3_safeAround rfl rfl rfl (by decide +kernel) ⟨Nat.le_of_ble_eq_true rfl, Nat.le_of_ble_eq_true rfl⟩) ⟨cP_blind, va_recv hKc hPc (ci := 3) (q0 := 0) rfl rfl, cP_of hPc hKc hDc (kE_at hE0 hAL hS)⟩ rfl rfl hl.1 rfl (lv_room (Nat.le_of_ble_eq_true rfl)) dX3_digest_195 ⟨Nat.le_of_ble_eq_true rfl, Nat.le_of_ble_eq_true rfl⟩) ?_
      show W _ _ _ _ _ _ _ _ _ _ _ _ _ _ _ (F0 m 198 ls [.int (nI (fb_ct (fun k => safS fo fl pl 5 k i) 8)), .long (((D2 * 31) + ((fl i).toInt64)) * 31)])
      refine lv_i2l hx hb dX3_digest_198 rfl ?_
      refine lv_ladd hx hb dX3_digest_199 ?_
      refine lv_lstore_n (lv' := [(2, .long ((((D2 * 31) + ((fl i).toInt64)) * 31) + ((nI (fb_ct (fun k => safS fo fl pl 5 k i) 8)).toInt64))), (4, .int (nI i)), (0, .ref mm)]) hx hb dX3_digest_200 rfl hl (by decide) rfl (fun ls hl => ?_)
      refine lv_iinc (v := (nI i) + 1) (lv' := [(4, .int ((nI i) + 1)), (2, .long ((((D2 * 31) + ((fl i).toInt64)) * 31) + ((nI (fb_ct (fun k => safS fo fl pl 5 k i) 8)).toInt64))), (0, .ref mm)]) hx hb dX3_digest_201 hl (k := 1) rfl rfl (by decide) rfl (fun ls hl => ?_)
      refine lv_goto (tgt := 166) hx hb dX3_digest_204 (by decide) ?_
      have hl : lv_has ls 8 [(4, .int (nI (i + 1))), (2, .long ((((D2 * 31) + ((fl i).toInt64)) * 31) + ((nI (fb_ct (fun k => safS fo fl pl 5 k i) 8)).toInt64))), (0, .ref mm)] := (show (nI i) + 1 = nI (i + 1) from nI_1 i) ▸ hl
      have hl : lv_has ls 8 [(4, .int (nI (i + 1))), (2, .long (mxL (mxL D2 (fl i)) (nI (fb_ct (fun k => safS fo fl pl 5 k i) 8)))), (0, .ref mm)] := hl
      exact ih (i + 1) _ _ _ _ (by omega) (by omega) hG (lv_sub hl [0, 1, 2] rfl) hP hD hS
  have loop1 : ∀ (n : Nat) (k : Nat) (H : Heap) (locs : List Loc) (ls : Array Slot), k + n = 4 → lv_has ls 8 [(4, .int (nI k)), (2, .long (dgO fo (fun k => strS fo pl k ld d r) k (digH d r ld pl (wkN (fun k => strS fo pl k ld d r) 4) li tl mo (grN (fun k => safS fo fl pl (nI k) d r) 60)))), (0, .ref mm)] → va_P D vwCl [(mm, .inr (3, [.int 0, .int (nI d), .int (nI r), .int ld, .int pl, .ref ao, .ref al, .int li, .int tl, .int mo, .ref aw, .ref aq, .int mn])), (ao, .inl (cI, 4, .inl fo)), (al, .inl (cI, 31, .inl fl)), (ra, .inl (cI, 9, .inl (upd (upd (upd (upd (upd (upd (upd (upd (upd (fun _ => 0) 0 (nI d)) 1 (nI r)) 2 ld) 3 pl) 4 (nI (wkN (fun k => strS fo pl k ld d r) 4))) 5 li) 6 tl) 7 mo) 8 (nI (grN (fun k => safS fo fl pl (nI k) d r) 60)))))] H → va_D A [(mm, .inr (3, [.int 0, .int (nI d), .int (nI r), .int ld, .int pl, .ref ao, .ref al, .int li, .int tl, .int mo, .ref aw, .ref aq, .int mn])), (ao, .inl (cI, 4, .inl fo)), (al, .inl (cI, 31, .inl fl)), (ra, .inl (cI, 9, .inl (upd (upd (upd (upd (upd (upd (upd (upd (upd (fun _ => 0) 0 (nI d)) 1 (nI r)) 2 ld) 3 pl) 4 (nI (wkN (fun k => strS fo pl k ld d r) 4))) 5 li) 6 tl) 7 mo) 8 (nI (grN (fun k => safS fo fl pl (nI k) d r) 60)))))] → va_S A s.heap H locs → W p l e (headSpec wsX3_digest ({ frames := 4, cells := 1, slots := 9, locals := 105 })).room s m ([.ref mm]).toArray below meth c H locs (0 + 1) (0 + 9) (MQ below (cB (some (.long (digS d r ld li tl mo pl fo fl))) (fun H => va_P D vwCl [(mm, .inr (3, [.int 0, .int (nI d), .int (nI r), .int ld, .int pl, .ref ao, .ref al, .int li, .int tl, .int mo, .ref aw, .ref aq, .int mn])), (ao, .inl (cI, 4, .inl fo)), (al, .inl (cI, 31, .inl fl))] H) A) ([.ref mm]).toArray s 1 9 A) (F0 m 124 ls []) := by
    intro n
    induction n with
    | zero =>
      intro k H locs ls hn hl hP hD hS
      have hi : k = 4 := by omega
      rw [hi] at hl
      refine lv_iload hx hb dX3_digest_124 (lv_at hl 0 rfl) ?_
      refine lv_iconst (v := 4) hx hb dX3_digest_126 (by decide) ?_
      refine lv_icmp_ge (tgt := 163) hx hb dX3_digest_127 (by decide) (fun _ => ?_) (fun c_58 => absurd (by decide) c_58)
      refine lv_iconst (v := 3) hx hb dX3_digest_163 (by decide) ?_
      refine lv_istore (lv' := [(4, .int 3), (2, .long (dgO fo (fun k => strS fo pl k ld d r) 4 (digH d r ld pl (wkN (fun k => strS fo pl k ld d r) 4) li tl mo (grN (fun k => safS fo fl pl (nI k) d r) 60)))), (0, .ref mm)]) hx hb dX3_digest_164 hl (by decide) rfl (fun ls hl => ?_)
      have hl : lv_has ls 8 [(4, .int (nI 3)), (2, .long (dgO fo (fun k => strS fo pl k ld d r) 4 (digH d r ld pl (wkN (fun k => strS fo pl k ld d r) 4) li tl mo (grN (fun k => safS fo fl pl (nI k) d r) 60)))), (0, .ref mm)] := (show 3 = nI 3 from rfl) ▸ hl
      exact loop2 28 3 _ _ _ _ (by omega) (by omega) rfl (lv_sub hl [0, 1, 2] rfl) hP hD hS
    | succ n ih =>
      intro k H locs ls hn hl hP hD hS
      refine lv_iload hx hb dX3_digest_124 (lv_at hl 0 rfl) ?_
      refine lv_iconst (v := 4) hx hb dX3_digest_126 (by decide) ?_
      refine lv_icmp_ge (tgt := 163) hx hb dX3_digest_127 (by decide) (fun c_59 => absurd c_59 (nI_ge (b := 4) (by omega) (by decide))) (fun _ => ?_)
      refine lv_lload_n hx hb dX3_digest_130 rfl (lv_at hl 1 rfl) ?_
      refine lv_ldc2 (v := 31) hx hb hown (hts (.constantLong RX3 132 31) (by decide +kernel)) dX3_digest_131 ?_
      refine lv_lmul hx hb dX3_digest_134 ?_
      refine lv_aload_n hx hb dX3_digest_135 rfl (lv_at hl 2 rfl) ?_
      refine va_get (D := D) (ci := 3) (v := .ref ao) (C := RX3) (T := TX3) (N := 13) hx hb hts hiX3 hown hK hP 0 rfl rfl 5 (by decide) (hts (.fieldLink RX3 13 "CraneReachModel" "out" "[I") (by decide +kernel)) (fun _ h9 => h9) rfl dX3_digest_136 ?_
      refine lv_iload hx hb dX3_digest_139 (lv_at hl 0 rfl) ?_
      refine va_iald hx hb hK hP 1 0 rfl rfl (vp_in_nI (by omega) (by decide)) dX3_digest_141 ?_
      refine c_top (show (fo (nI k).toNatClampNeg) = fo k from by rw [nI_clamp (by omega)]) ?_
      refine lv_i2l hx hb dX3_digest_142 rfl ?_
      refine lv_ladd hx hb dX3_digest_143 ?_
      refine lv_ldc2 (v := 31) hx hb hown (hts (.constantLong RX3 132 31) (by decide +kernel)) dX3_digest_144 ?_
      refine lv_lmul hx hb dX3_digest_147 ?_
      refine lv_aload_n hx hb dX3_digest_148 rfl (lv_at hl 2 rfl) ?_
      refine lv_iload hx hb dX3_digest_149 (lv_at hl 0 rfl) ?_
      have hPc := hP.sub (ws' := [(mm, .inr (3, [.int 0, .int (nI d), .int (nI r), .int ld, .int pl, .ref ao, .ref al, .int li, .int tl, .int mo, .ref aw, .ref aq, .int mn])), (ao, .inl (cI, 4, .inl fo)), (al, .inl (cI, 31, .inl fl))]) [0, 1, 2] rfl
      have hDc : va_D (fun q : Nat => L0 ≤ q) [(mm, .inr (3, [.int 0, .int (nI d), .int (nI r), .int ld, .int pl, .ref ao, .ref al, .int li, .int tl, .int mo, .ref aw, .ref aq, .int mn])), (ao, .inl (cI, 4, .inl fo)), (al, .inl (cI, 31, .inl fl))] := (hD.sub (ws' := [(mm, .inr (3, [.int 0, .int (nI d), .int (nI r), .int ld, .int pl, .ref ao, .ref al, .int li, .int tl, .int mo, .ref aw, .ref aq, .int mn])), (ao, .inl (cI, 4, .inl fo)), (al, .inl (cI, 31, .inl fl))]) [0, 1, 2] (by decide) rfl).weaken (fun _ z9 _ h9 => hAL _ h9)
      have hKc := hK.sub (tys' := [(cI, .int)]) [0] rfl
      refine c_callR (va_runV (As := [.int (nI k)]) (rest := [.long ((((dgO fo (fun k => strS fo pl k ld d r) k (digH d r ld pl (wkN (fun k => strS fo pl k ld d r) 4) li tl mo (grN (fun k => safS fo fl pl (nI k) d r) 60))) * 31) + ((fo k).toInt64)) * 31)]) ⟨hx, hb, hml, hown, hts⟩ (q_strainNow l D L0 cI mm ao al aw aq d r 0 ld pl li tl mo mn fo fl k (by omega) hd) (cwV 1 hts gX3_digest_X3_strainNow rfl rfl rfl (by decide +kernel) ⟨Nat.le_of_ble_eq_true rfl, Nat.le_of_ble_eq_true rfl⟩) ⟨cP_blind, va_recv hKc hPc (ci := 3) (q0 := 0) rfl rfl, cP_of hPc hKc hDc (kE_at hE0 hAL hS)⟩ rfl rfl hl.1 rfl (lv_room (Nat.le_of_ble_eq_true rfl)) dX3_digest_151 ⟨Nat.le_of_ble_eq_true rfl, Nat.le_of_ble_eq_true rfl⟩) ?_
      show W _ _ _ _ _ _ _ _ _ _ _ _ _ _ _ (F0 m 154 ls [.int (strS fo pl k ld d r), .long ((((dgO fo (fun k => strS fo pl k ld d r) k (digH d r ld pl (wkN (fun k => strS fo pl k ld d r) 4) li tl mo (grN (fun k => safS fo fl pl (nI k) d r) 60))) * 31) + ((fo k).toInt64)) * 31)])
      refine lv_i2l hx hb dX3_digest_154 rfl ?_
      refine lv_ladd hx hb dX3_digest_155 ?_
      refine lv_lstore_n (lv' := [(2, .long (((((dgO fo (fun k => strS fo pl k ld d r) k (digH d r ld pl (wkN (fun k => strS fo pl k ld d r) 4) li tl mo (grN (fun k => safS fo fl pl (nI k) d r) 60))) * 31) + ((fo k).toInt64)) * 31) + ((strS fo pl k ld d r).toInt64))), (4, .int (nI k)), (0, .ref mm)]) hx hb dX3_digest_156 rfl hl (by decide) rfl (fun ls hl => ?_)
      refine lv_iinc (v := (nI k) + 1) (lv' := [(4, .int ((nI k) + 1)), (2, .long (((((dgO fo (fun k => strS fo pl k ld d r) k (digH d r ld pl (wkN (fun k => strS fo pl k ld d r) 4) li tl mo (grN (fun k => safS fo fl pl (nI k) d r) 60))) * 31) + ((fo k).toInt64)) * 31) + ((strS fo pl k ld d r).toInt64))), (0, .ref mm)]) hx hb dX3_digest_157 hl (k := 1) rfl rfl (by decide) rfl (fun ls hl => ?_)
      refine lv_goto (tgt := 124) hx hb dX3_digest_160 (by decide) ?_
      have hl : lv_has ls 8 [(4, .int (nI (k + 1))), (2, .long (((((dgO fo (fun k => strS fo pl k ld d r) k (digH d r ld pl (wkN (fun k => strS fo pl k ld d r) 4) li tl mo (grN (fun k => safS fo fl pl (nI k) d r) 60))) * 31) + ((fo k).toInt64)) * 31) + ((strS fo pl k ld d r).toInt64))), (0, .ref mm)] := (show (nI k) + 1 = nI (k + 1) from nI_1 k) ▸ hl
      have hl : lv_has ls 8 [(4, .int (nI (k + 1))), (2, .long (dgO fo (fun k => strS fo pl k ld d r) (k + 1) (digH d r ld pl (wkN (fun k => strS fo pl k ld d r) 4) li tl mo (grN (fun k => safS fo fl pl (nI k) d r) 60)))), (0, .ref mm)] := hl
      exact ih (k + 1) _ _ _ (by omega) (lv_sub hl [0, 1, 2] rfl) hP hD hS
  exact loop1 4 0 _ _ _ (by omega) (lv_sub hl [0, 2, 6] rfl) hP hD hS
set_option maxHeartbeats 4000000 in
set_option maxRecDepth 100000 in
/-- CraneReachModel() -/
theorem q_M_init (l : Launch) (D : va_G) (L0 : Nat) (cI : ClassId) (mm : Nat) (sz : Nat) : Met l yX3_init wsX3_init ({ frames := 1, cells := 4, slots := 531, locals := 12 }) (cPz L0 D [(cI, .int)] [(mm, .inr (3, [.int 0, .int 0, .int 0, .int 0, .int 0, .null, .null, .int 0, .int 0, .int 0, .null, .null, .int 0]))] [.ref mm] sz) (cB none (fun H => ∃ ao al aw aq : Nat, va_P D vwCl [(mm, .inr (3, [.int 0, .int (nI 0), .int (nI 3), .int 0, .int 0, .ref ao, .ref al, .int 0, .int 0, .int 0, .ref aw, .ref aq, .int 0])), (ao, .inl (cI, 4, .inl (fun _ => 0))), (al, .inl (cI, 31, .inl lim0)), (aw, .inl (cI, 248, .inl (fun _ => 0))), (aq, .inl (cI, 248, .inl (fun _ => 0)))] H ∧ va_D (va_A [(mm, .inr (3, [.int 0, .int 0, .int 0, .int 0, .int 0, .null, .null, .int 0, .int 0, .int 0, .null, .null, .int 0]))] sz) [(mm, .inr (3, [.int 0, .int (nI 0), .int (nI 3), .int 0, .int 0, .ref ao, .ref al, .int 0, .int 0, .int 0, .ref aw, .ref aq, .int 0])), (ao, .inl (cI, 4, .inl (fun _ => 0))), (al, .inl (cI, 31, .inl lim0)), (aw, .inl (cI, 248, .inl (fun _ => 0))), (aq, .inl (cI, 248, .inl (fun _ => 0)))]) (va_A [(mm, .inr (3, [.int 0, .int 0, .int 0, .int 0, .int 0, .null, .null, .int 0, .int 0, .int 0, .null, .null, .int 0]))] sz)) 4 531 (va_A [(mm, .inr (3, [.int 0, .int 0, .int 0, .int 0, .int 0, .null, .null, .int 0, .int 0, .int 0, .null, .null, .int 0]))] sz) := by
  refine Met.ofW (cc := cX3_init) (maxL := 2) (ret := none) (by decide) rfl ?_
  intro p e s m args below meth c s₁ B hml hv
  obtain ⟨⟨rfl, hP, hK, hD0, hE0⟩, rfl⟩ := hv
  have hx := B.exec
  have hb := B.bytes
  have hRt := B.returns
  have hts := atoms_spec (ws := wsX3_init) B.pre
  have hown : s.vm.findClass RX3 = some m.cls := findClass_of_methodNamed B.named
  have hlocks := B.notSynchronized
  have hin : meth.name = "<init>" := (name_of_methodNamed B.named B.method).1
  have hAL : ∀ z9 : Nat, va_A [(mm, .inr (3, [.int 0, .int 0, .int 0, .int 0, .int 0, .null, .null, .int 0, .int 0, .int 0, .null, .null, .int 0]))] s.heap.size z9 → L0 ≤ z9 := fun z9 h9 => h9.elim (fun ⟨k9, e9, h8⟩ => hD0.2 k9 (z9, e9) h8) (fun h8 => Nat.le_trans hE0.1 h8)
  have hD : va_D (va_A [(mm, .inr (3, [.int 0, .int 0, .int 0, .int 0, .int 0, .null, .null, .int 0, .int 0, .int 0, .null, .null, .int 0]))] s.heap.size) [(mm, .inr (3, [.int 0, .int 0, .int 0, .int 0, .int 0, .null, .null, .int 0, .int 0, .int 0, .null, .null, .int 0]))] := hD0.self
  have hA : ∀ z9 : Nat, s.heap.size ≤ z9 → va_A [(mm, .inr (3, [.int 0, .int 0, .int 0, .int 0, .int 0, .null, .null, .int 0, .int 0, .int 0, .null, .null, .int 0]))] s.heap.size z9 := fun z9 h9 => Or.inr h9
  generalize hAe : va_A [(mm, .inr (3, [.int 0, .int 0, .int 0, .int 0, .int 0, .null, .null, .int 0, .int 0, .int 0, .null, .null, .int 0]))] s.heap.size = A at hD hAL hA ⊢
  have hS : va_S A s.heap s.heap [] := va_S.rf
  have hiX3 : ∀ w ∈ u_ws RX3 TX3 13, w ∈ wsX3_init := by decide +kernel
  have hl := lv_entry ([.ref mm]) (n := 2) (Nat.le_of_ble_eq_true rfl)
  rw [lg_entry_eq]
  generalize (lg_sl ([.ref mm]) ++ List.replicate (2 - (lg_sl ([.ref mm])).length) Slot.unset).toArray = ls at hl ⊢
  have hl : lv_has ls 2 [(0, .ref mm)] := hl
  refine lv_aload_n hx hb dX3_init_0 rfl (lv_at hl 0 rfl) ?_
  refine W.objInit hx hb hown (hts (.methodLink RX3 3 objectInit) (by decide +kernel)) (hts (.instanceMethod objectInit) (by decide +kernel)) (hts (.code objectInit ⟨#[0xb1]⟩ 1 none) (by decide +kernel)) rfl (by rw [hml]; exact hl.1) rfl dX3_init_1 (Nat.le_of_ble_eq_true rfl) (Nat.le_of_ble_eq_true rfl) ?_
  refine W.eq (g2 := F0 m 4 ls []) rfl ?_
  refine lv_aload_n hx hb dX3_init_4 rfl (lv_at hl 0 rfl) ?_
  refine lv_iconst (v := 3) hx hb dX3_init_5 (by decide) ?_
  refine va_put (D := D) (ci := 3) (v := .int 3) (ty := .int) (C := RX3) (T := TX3) (N := 13) hx hb hts hiX3 tyX3 tyX3_ok nmX3 hown hK hP hD hS 0 rfl rfl 2 (by decide) (hts (.fieldLink RX3 9 "CraneReachModel" "reach" "I") (by decide +kernel)) (fun _ h9 => h9) rfl (by decide +kernel) rfl rfl (Nat.le_of_ble_eq_true rfl) dX3_init_6 (fun H locs hP hD hS => ?_)
  have hP : va_P D vwCl [(mm, .inr (3, [.int 0, .int 0, .int 3, .int 0, .int 0, .null, .null, .int 0, .int 0, .int 0, .null, .null, .int 0]))] H := hP
  have hD : va_D A [(mm, .inr (3, [.int 0, .int 0, .int 3, .int 0, .int 0, .null, .null, .int 0, .int 0, .int 0, .null, .null, .int 0]))] := hD
  refine lv_aload_n hx hb dX3_init_9 rfl (lv_at hl 0 rfl) ?_
  refine lv_iconst (v := 4) hx hb dX3_init_10 (by decide) ?_
  refine va_newa (atype := .int) (ty := .int) (a0 := (4, .inl (fun _ => 0))) (N' := 4) hx hb (hts (.arrayClass .int) (by decide +kernel)) rfl hK hP hD hS hA (fun _ => rfl) (by decide) (by decide) (Nat.le_of_ble_eq_true rfl) (Nat.le_of_ble_eq_true rfl) (Nat.le_of_ble_eq_true rfl) dX3_init_11 (fun ao cA H hK hP hD hS => ?_)
  have eA : cA = cI := Option.some.inj ((hK.2 1 _ rfl).2.symm.trans (hK.2 0 _ rfl).2)
  rw [eA] at hP hD
  have hK := hK.sub (tys' := [(cI, .int)]) [0] rfl
  have hP : va_P D vwCl [(mm, .inr (3, [.int 0, .int 0, .int 3, .int 0, .int 0, .null, .null, .int 0, .int 0, .int 0, .null, .null, .int 0])), (ao, .inl (cI, 4, .inl (fun _ => 0)))] H := hP
  have hD : va_D A [(mm, .inr (3, [.int 0, .int 0, .int 3, .int 0, .int 0, .null, .null, .int 0, .int 0, .int 0, .null, .null, .int 0])), (ao, .inl (cI, 4, .inl (fun _ => 0)))] := hD
  refine va_putF (D := D) (ci := 3) (v := .ref ao) (ty := .array .int) (C := RX3) (T := TX3) (N := 13) hx hb hts hiX3 tyX3 tyX3_ok nmX3 hown hK hP hD hS 0 rfl rfl 5 (by decide) (hts (.fieldLink RX3 13 "CraneReachModel" "out" "[I") (by decide +kernel)) (fun _ h9 => h9) rfl hin rfl (by decide +kernel) rfl rfl (Nat.le_of_ble_eq_true rfl) dX3_init_13 (fun H locs hP hD hS => ?_)
  have hP : va_P D vwCl [(mm, .inr (3, [.int 0, .int 0, .int 3, .int 0, .int 0, .ref ao, .null, .int 0, .int 0, .int 0, .null, .null, .int 0])), (ao, .inl (cI, 4, .inl (fun _ => 0)))] H := hP
  have hD : va_D A [(mm, .inr (3, [.int 0, .int 0, .int 3, .int 0, .int 0, .ref ao, .null, .int 0, .int 0, .int 0, .null, .null, .int 0])), (ao, .inl (cI, 4, .inl (fun _ => 0)))] := hD
  refine lv_aload_n hx hb dX3_init_16 rfl (lv_at hl 0 rfl) ?_
  refine lv_bipush (v := 31) hx hb dX3_init_17 (by decide) ?_
  refine va_newa (atype := .int) (ty := .int) (a0 := (31, .inl (fun _ => 0))) (N' := 31) hx hb (hts (.arrayClass .int) (by decide +kernel)) rfl hK hP hD hS hA (fun _ => rfl) (by decide) (by decide) (Nat.le_of_ble_eq_true rfl) (Nat.le_of_ble_eq_true rfl) (Nat.le_of_ble_eq_true rfl) dX3_init_19 (fun al cA H hK hP hD hS => ?_)
  have eA : cA = cI := Option.some.inj ((hK.2 1 _ rfl).2.symm.trans (hK.2 0 _ rfl).2)
  rw [eA] at hP hD
  have hK := hK.sub (tys' := [(cI, .int)]) [0] rfl
  have hP : va_P D vwCl [(mm, .inr (3, [.int 0, .int 0, .int 3, .int 0, .int 0, .ref ao, .null, .int 0, .int 0, .int 0, .null, .null, .int 0])), (ao, .inl (cI, 4, .inl (fun _ => 0))), (al, .inl (cI, 31, .inl (fun _ => 0)))] H := hP
  have hD : va_D A [(mm, .inr (3, [.int 0, .int 0, .int 3, .int 0, .int 0, .ref ao, .null, .int 0, .int 0, .int 0, .null, .null, .int 0])), (ao, .inl (cI, 4, .inl (fun _ => 0))), (al, .inl (cI, 31, .inl (fun _ => 0)))] := hD
  refine va_putF (D := D) (ci := 3) (v := .ref al) (ty := .array .int) (C := RX3) (T := TX3) (N := 13) hx hb hts hiX3 tyX3 tyX3_ok nmX3 hown hK hP hD hS 0 rfl rfl 6 (by decide) (hts (.fieldLink RX3 17 "CraneReachModel" "limit" "[I") (by decide +kernel)) (fun _ h9 => h9) rfl hin rfl (by decide +kernel) rfl rfl (Nat.le_of_ble_eq_true rfl) dX3_init_21 (fun H locs hP hD hS => ?_)
  have hP : va_P D vwCl [(mm, .inr (3, [.int 0, .int 0, .int 3, .int 0, .int 0, .ref ao, .ref al, .int 0, .int 0, .int 0, .null, .null, .int 0])), (ao, .inl (cI, 4, .inl (fun _ => 0))), (al, .inl (cI, 31, .inl (fun _ => 0)))] H := hP
  have hD : va_D A [(mm, .inr (3, [.int 0, .int 0, .int 3, .int 0, .int 0, .ref ao, .ref al, .int 0, .int 0, .int 0, .null, .null, .int 0])), (ao, .inl (cI, 4, .inl (fun _ => 0))), (al, .inl (cI, 31, .inl (fun _ => 0)))] := hD
  refine lv_aload_n hx hb dX3_init_24 rfl (lv_at hl 0 rfl) ?_
  refine lv_sipush (v := 248) hx hb dX3_init_25 (by decide) ?_
  refine va_newa (atype := .int) (ty := .int) (a0 := (248, .inl (fun _ => 0))) (N' := 248) hx hb (hts (.arrayClass .int) (by decide +kernel)) rfl hK hP hD hS hA (fun _ => rfl) (by decide) (by decide) (Nat.le_of_ble_eq_true rfl) (Nat.le_of_ble_eq_true rfl) (Nat.le_of_ble_eq_true rfl) dX3_init_28 (fun aw cA H hK hP hD hS => ?_)
  have eA : cA = cI := Option.some.inj ((hK.2 1 _ rfl).2.symm.trans (hK.2 0 _ rfl).2)
  rw [eA] at hP hD
  have hK := hK.sub (tys' := [(cI, .int)]) [0] rfl
  have hP : va_P D vwCl [(mm, .inr (3, [.int 0, .int 0, .int 3, .int 0, .int 0, .ref ao, .ref al, .int 0, .int 0, .int 0, .null, .null, .int 0])), (ao, .inl (cI, 4, .inl (fun _ => 0))), (al, .inl (cI, 31, .inl (fun _ => 0))), (aw, .inl (cI, 248, .inl (fun _ => 0)))] H := hP
  have hD : va_D A [(mm, .inr (3, [.int 0, .int 0, .int 3, .int 0, .int 0, .ref ao, .ref al, .int 0, .int 0, .int 0, .null, .null, .int 0])), (ao, .inl (cI, 4, .inl (fun _ => 0))), (al, .inl (cI, 31, .inl (fun _ => 0))), (aw, .inl (cI, 248, .inl (fun _ => 0)))] := hD
  refine va_putF (D := D) (ci := 3) (v := .ref aw) (ty := .array .int) (C := RX3) (T := TX3) (N := 13) hx hb hts hiX3 tyX3 tyX3_ok nmX3 hown hK hP hD hS 0 rfl rfl 10 (by decide) (hts (.fieldLink RX3 20 "CraneReachModel" "away" "[I") (by decide +kernel)) (fun _ h9 => h9) rfl hin rfl (by decide +kernel) rfl rfl (Nat.le_of_ble_eq_true rfl) dX3_init_30 (fun H locs hP hD hS => ?_)
  have hP : va_P D vwCl [(mm, .inr (3, [.int 0, .int 0, .int 3, .int 0, .int 0, .ref ao, .ref al, .int 0, .int 0, .int 0, .ref aw, .null, .int 0])), (ao, .inl (cI, 4, .inl (fun _ => 0))), (al, .inl (cI, 31, .inl (fun _ => 0))), (aw, .inl (cI, 248, .inl (fun _ => 0)))] H := hP
  have hD : va_D A [(mm, .inr (3, [.int 0, .int 0, .int 3, .int 0, .int 0, .ref ao, .ref al, .int 0, .int 0, .int 0, .ref aw, .null, .int 0])), (ao, .inl (cI, 4, .inl (fun _ => 0))), (al, .inl (cI, 31, .inl (fun _ => 0))), (aw, .inl (cI, 248, .inl (fun _ => 0)))] := hD
  refine lv_aload_n hx hb dX3_init_33 rfl (lv_at hl 0 rfl) ?_
  refine lv_sipush (v := 248) hx hb dX3_init_34 (by decide) ?_
  refine va_newa (atype := .int) (ty := .int) (a0 := (248, .inl (fun _ => 0))) (N' := 248) hx hb (hts (.arrayClass .int) (by decide +kernel)) rfl hK hP hD hS hA (fun _ => rfl) (by decide) (by decide) (Nat.le_of_ble_eq_true rfl) (Nat.le_of_ble_eq_true rfl) (Nat.le_of_ble_eq_true rfl) dX3_init_37 (fun aq cA H hK hP hD hS => ?_)
  have eA : cA = cI := Option.some.inj ((hK.2 1 _ rfl).2.symm.trans (hK.2 0 _ rfl).2)
  rw [eA] at hP hD
  have hK := hK.sub (tys' := [(cI, .int)]) [0] rfl
  have hP : va_P D vwCl [(mm, .inr (3, [.int 0, .int 0, .int 3, .int 0, .int 0, .ref ao, .ref al, .int 0, .int 0, .int 0, .ref aw, .null, .int 0])), (ao, .inl (cI, 4, .inl (fun _ => 0))), (al, .inl (cI, 31, .inl (fun _ => 0))), (aw, .inl (cI, 248, .inl (fun _ => 0))), (aq, .inl (cI, 248, .inl (fun _ => 0)))] H := hP
  have hD : va_D A [(mm, .inr (3, [.int 0, .int 0, .int 3, .int 0, .int 0, .ref ao, .ref al, .int 0, .int 0, .int 0, .ref aw, .null, .int 0])), (ao, .inl (cI, 4, .inl (fun _ => 0))), (al, .inl (cI, 31, .inl (fun _ => 0))), (aw, .inl (cI, 248, .inl (fun _ => 0))), (aq, .inl (cI, 248, .inl (fun _ => 0)))] := hD
  refine va_putF (D := D) (ci := 3) (v := .ref aq) (ty := .array .int) (C := RX3) (T := TX3) (N := 13) hx hb hts hiX3 tyX3 tyX3_ok nmX3 hown hK hP hD hS 0 rfl rfl 11 (by decide) (hts (.fieldLink RX3 23 "CraneReachModel" "queue" "[I") (by decide +kernel)) (fun _ h9 => h9) rfl hin rfl (by decide +kernel) rfl rfl (Nat.le_of_ble_eq_true rfl) dX3_init_39 (fun H locs hP hD hS => ?_)
  have hP : va_P D vwCl [(mm, .inr (3, [.int 0, .int 0, .int 3, .int 0, .int 0, .ref ao, .ref al, .int 0, .int 0, .int 0, .ref aw, .ref aq, .int 0])), (ao, .inl (cI, 4, .inl (fun _ => 0))), (al, .inl (cI, 31, .inl (fun _ => 0))), (aw, .inl (cI, 248, .inl (fun _ => 0))), (aq, .inl (cI, 248, .inl (fun _ => 0)))] H := hP
  have hD : va_D A [(mm, .inr (3, [.int 0, .int 0, .int 3, .int 0, .int 0, .ref ao, .ref al, .int 0, .int 0, .int 0, .ref aw, .ref aq, .int 0])), (ao, .inl (cI, 4, .inl (fun _ => 0))), (al, .inl (cI, 31, .inl (fun _ => 0))), (aw, .inl (cI, 248, .inl (fun _ => 0))), (aq, .inl (cI, 248, .inl (fun _ => 0)))] := hD
  refine lv_iconst (v := 3) hx hb dX3_init_42 (by decide) ?_
  refine lv_istore_n (lv' := [(1, .int 3), (0, .ref mm)]) hx hb dX3_init_43 rfl hl (by decide) rfl (fun ls hl => ?_)
  have hP : va_P D vwCl [(mm, .inr (3, [.int 0, .int (nI 0), .int (nI 3), .int 0, .int 0, .ref ao, .ref al, .int 0, .int 0, .int 0, .ref aw, .ref aq, .int 0])), (ao, .inl (cI, 4, .inl (fun _ => 0))), (al, .inl (cI, 31, .inl (fun _ => 0))), (aw, .inl (cI, 248, .inl (fun _ => 0))), (aq, .inl (cI, 248, .inl (fun _ => 0)))] H := hP
  have hD : va_D A [(mm, .inr (3, [.int 0, .int (nI 0), .int (nI 3), .int 0, .int 0, .ref ao, .ref al, .int 0, .int 0, .int 0, .ref aw, .ref aq, .int 0])), (ao, .inl (cI, 4, .inl (fun _ => 0))), (al, .inl (cI, 31, .inl (fun _ => 0))), (aw, .inl (cI, 248, .inl (fun _ => 0))), (aq, .inl (cI, 248, .inl (fun _ => 0)))] := hD
  have loop : ∀ (n : Nat) (i : Nat) (gl : Nat → Int32) (H : Heap) (locs : List Loc) (ls : Array Slot), i + n = 31 → 3 ≤ i → (∀ j, j < i → gl j = lim0 j) → lv_has ls 2 [(1, .int (nI i)), (0, .ref mm)] → va_P D vwCl [(mm, .inr (3, [.int 0, .int (nI 0), .int (nI 3), .int 0, .int 0, .ref ao, .ref al, .int 0, .int 0, .int 0, .ref aw, .ref aq, .int 0])), (ao, .inl (cI, 4, .inl (fun _ => 0))), (al, .inl (cI, 31, .inl gl)), (aw, .inl (cI, 248, .inl (fun _ => 0))), (aq, .inl (cI, 248, .inl (fun _ => 0)))] H → va_D A [(mm, .inr (3, [.int 0, .int (nI 0), .int (nI 3), .int 0, .int 0, .ref ao, .ref al, .int 0, .int 0, .int 0, .ref aw, .ref aq, .int 0])), (ao, .inl (cI, 4, .inl (fun _ => 0))), (al, .inl (cI, 31, .inl gl)), (aw, .inl (cI, 248, .inl (fun _ => 0))), (aq, .inl (cI, 248, .inl (fun _ => 0)))] → va_S A s.heap H locs → W p l e (headSpec wsX3_init ({ frames := 1, cells := 4, slots := 531, locals := 12 })).room s m ([.ref mm]).toArray below meth c H locs (0 + 1 + 1 + 1 + 1) (0 + 4 + 31 + 248 + 248) (MQ below (cB none (fun H => ∃ ao al aw aq : Nat, va_P D vwCl [(mm, .inr (3, [.int 0, .int (nI 0), .int (nI 3), .int 0, .int 0, .ref ao, .ref al, .int 0, .int 0, .int 0, .ref aw, .ref aq, .int 0])), (ao, .inl (cI, 4, .inl (fun _ => 0))), (al, .inl (cI, 31, .inl lim0)), (aw, .inl (cI, 248, .inl (fun _ => 0))), (aq, .inl (cI, 248, .inl (fun _ => 0)))] H ∧ va_D A [(mm, .inr (3, [.int 0, .int (nI 0), .int (nI 3), .int 0, .int 0, .ref ao, .ref al, .int 0, .int 0, .int 0, .ref aw, .ref aq, .int 0])), (ao, .inl (cI, 4, .inl (fun _ => 0))), (al, .inl (cI, 31, .inl lim0)), (aw, .inl (cI, 248, .inl (fun _ => 0))), (aq, .inl (cI, 248, .inl (fun _ => 0)))]) A) ([.ref mm]).toArray s 4 531 A) (F0 m 44 ls []) := by
    intro n
    induction n with
    | zero =>
      intro i gl H locs ls hn h3 hg hl hP hD hS
      have hi : i = 31 := by omega
      rw [hi] at hl
      refine lv_iload_n hx hb dX3_init_44 rfl (lv_at hl 0 rfl) ?_
      refine lv_bipush (v := 30) hx hb dX3_init_45 (by decide) ?_
      refine lv_icmp_gt (tgt := 66) hx hb dX3_init_47 (by decide) (fun _ => ?_) (fun c_60 => absurd (by decide) c_60)
      have hP : va_P D vwCl [(mm, .inr (3, [.int 0, .int (nI 0), .int (nI 3), .int 0, .int 0, .ref ao, .ref al, .int 0, .int 0, .int 0, .ref aw, .ref aq, .int 0])), (ao, .inl (cI, 4, .inl (fun _ => 0))), (al, .inl (cI, 31, .inl lim0)), (aw, .inl (cI, 248, .inl (fun _ => 0))), (aq, .inl (cI, 248, .inl (fun _ => 0)))] H := by
        intro k z hz
        match k, hz with
        | 0, hz => exact hP 0 z hz
        | 1, hz => exact hP 1 z hz
        | 2, hz => cases hz; exact arr_same (hP 2 _ rfl) (fun j hj => hg j (by omega))
        | 3, hz => exact hP 3 z hz
        | 4, hz => exact hP 4 z hz
        | k + 5, hz => cases hz
      exact W.vret hx hb hRt (fun t ht hW => ⟨⟨rfl, by rw [ht]; exact ⟨_, _, _, _, hP, c_Dsame hD rfl⟩⟩, hS.F ht⟩) hS.2.2 dX3_init_66
    | succ n ih =>
      intro i gl H locs ls hn h3 hg hl hP hD hS
      refine lv_iload_n hx hb dX3_init_44 rfl (lv_at hl 0 rfl) ?_
      refine lv_bipush (v := 30) hx hb dX3_init_45 (by decide) ?_
      refine lv_icmp_gt (tgt := 66) hx hb dX3_init_47 (by decide) (fun c_61 => absurd c_61 (Int32.not_lt.mpr (nI_le (b := 30) (by omega) (by decide)))) (fun _ => ?_)
      refine lv_aload_n hx hb dX3_init_50 rfl (lv_at hl 1 rfl) ?_
      refine va_get (D := D) (ci := 3) (v := .ref al) (C := RX3) (T := TX3) (N := 13) hx hb hts hiX3 hown hK hP 0 rfl rfl 6 (by decide) (hts (.fieldLink RX3 17 "CraneReachModel" "limit" "[I") (by decide +kernel)) (fun _ h9 => h9) rfl dX3_init_51 ?_
      refine lv_iload_n hx hb dX3_init_54 rfl (lv_at hl 0 rfl) ?_
      refine lv_bipush (v := 90) hx hb dX3_init_55 (by decide) ?_
      refine lv_iload_n hx hb dX3_init_57 rfl (lv_at hl 0 rfl) ?_
      refine lv_idiv hx hb dX3_init_58 (nI_ne0 (by omega) (by omega)) ?_
      refine c_top (show (90 / (nI i)) = nI (90 / i) from lim_divM i (by omega) h3) ?_
      refine va_iast hx hb hK hP hD hS 2 0 rfl rfl (vp_in_nI (by omega) (by decide)) dX3_init_59 (fun H locs hP hD hS => ?_)
      have hP : va_P D vwCl [(mm, .inr (3, [.int 0, .int (nI 0), .int (nI 3), .int 0, .int 0, .ref ao, .ref al, .int 0, .int 0, .int 0, .ref aw, .ref aq, .int 0])), (ao, .inl (cI, 4, .inl (fun _ => 0))), (al, .inl (cI, 31, .inl (upd gl (nI i).toNatClampNeg (nI (90 / i))))), (aw, .inl (cI, 248, .inl (fun _ => 0))), (aq, .inl (cI, 248, .inl (fun _ => 0)))] H := hP
      have hD : va_D A [(mm, .inr (3, [.int 0, .int (nI 0), .int (nI 3), .int 0, .int 0, .ref ao, .ref al, .int 0, .int 0, .int 0, .ref aw, .ref aq, .int 0])), (ao, .inl (cI, 4, .inl (fun _ => 0))), (al, .inl (cI, 31, .inl (upd gl (nI i).toNatClampNeg (nI (90 / i))))), (aw, .inl (cI, 248, .inl (fun _ => 0))), (aq, .inl (cI, 248, .inl (fun _ => 0)))] := hD
      rw [show (nI i).toNatClampNeg = i from nI_clamp (by omega)] at hP hD
      have hP : va_P D vwCl [(mm, .inr (3, [.int 0, .int (nI 0), .int (nI 3), .int 0, .int 0, .ref ao, .ref al, .int 0, .int 0, .int 0, .ref aw, .ref aq, .int 0])), (ao, .inl (cI, 4, .inl (fun _ => 0))), (al, .inl (cI, 31, .inl (upd gl i (nI (90 / i))))), (aw, .inl (cI, 248, .inl (fun _ => 0))), (aq, .inl (cI, 248, .inl (fun _ => 0)))] H := hP
      have hD : va_D A [(mm, .inr (3, [.int 0, .int (nI 0), .int (nI 3), .int 0, .int 0, .ref ao, .ref al, .int 0, .int 0, .int 0, .ref aw, .ref aq, .int 0])), (ao, .inl (cI, 4, .inl (fun _ => 0))), (al, .inl (cI, 31, .inl (upd gl i (nI (90 / i))))), (aw, .inl (cI, 248, .inl (fun _ => 0))), (aq, .inl (cI, 248, .inl (fun _ => 0)))] := hD
      refine lv_iinc (v := (nI i) + 1) (lv' := [(1, .int ((nI i) + 1)), (0, .ref mm)]) hx hb dX3_init_60 hl (k := 0) rfl rfl (by decide) rfl (fun ls hl => ?_)
      refine lv_goto (tgt := 44) hx hb dX3_init_63 (by decide) ?_
      have hl : lv_has ls 2 [(1, .int (nI (i + 1))), (0, .ref mm)] := (show (nI i) + 1 = nI (i + 1) from nI_1 i) ▸ hl
      exact ih (i + 1) _ _ _ _ (by omega) (by omega) (fun j hj => by
            by_cases e : j = i
            · rw [e, pk_us, lim0, if_pos (by omega)]
            · rw [pk_un e]; exact hg j (by omega)) (lv_sub hl [0, 1] rfl) hP hD hS
  have hl : lv_has ls 2 [(1, .int (nI 3)), (0, .ref mm)] := (show 3 = nI 3 from rfl) ▸ hl
  exact loop 28 3 _ _ _ _ (by omega) (by omega) (fun j hj => by rw [lim0, if_neg (by omega)]) (lv_sub hl [0, 1] rfl) hP hD hS
