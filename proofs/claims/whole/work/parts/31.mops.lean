set_option maxHeartbeats 4000000 in
set_option maxRecDepth 100000 in
/-- setPlates -/
theorem q_setPlates (l : Launch) (D : va_G) (L0 : Nat) (cI : ClassId) (mm ao al aw aq d r : Nat) (th ld pl li tl mo mn : Int32) (fo fl : Nat → Int32) (v : Int32) (hd : d < 8) (hr : 3 ≤ r ∧ r ≤ 30) : Met l yX3_setPlates wsX3_setPlates ({ frames := 4, cells := 0, slots := 0, locals := 101 }) (cP L0 D [(cI, .int)] [(mm, .inr (3, [.int th, .int (nI d), .int (nI r), .int ld, .int pl, .ref ao, .ref al, .int li, .int tl, .int mo, .ref aw, .ref aq, .int mn])), (ao, .inl (cI, 4, .inl fo)), (al, .inl (cI, 31, .inl fl))] [.ref mm, .int v]) (cB (some (.int (if kSP (fun q => safS fo fl q ld d r) v = 0 then pl else 0))) (fun H => va_P D vwCl [(mm, .inr (3, [.int (kSP (fun q => safS fo fl q ld d r) v), .int (nI d), .int (nI r), .int ld, .int (if kSP (fun q => safS fo fl q ld d r) v = 0 then v else pl), .ref ao, .ref al, .int li, .int tl, .int mo, .ref aw, .ref aq, .int mn])), (ao, .inl (cI, 4, .inl fo)), (al, .inl (cI, 31, .inl fl))] H) (cA [(mm, .inr (3, [.int th, .int (nI d), .int (nI r), .int ld, .int pl, .ref ao, .ref al, .int li, .int tl, .int mo, .ref aw, .ref aq, .int mn])), (ao, .inl (cI, 4, .inl fo)), (al, .inl (cI, 31, .inl fl))])) 0 0 (cA [(mm, .inr (3, [.int th, .int (nI d), .int (nI r), .int ld, .int pl, .ref ao, .ref al, .int li, .int tl, .int mo, .ref aw, .ref aq, .int mn])), (ao, .inl (cI, 4, .inl fo)), (al, .inl (cI, 31, .inl fl))]) := by
  refine Met.ofW (cc := cX3_setPlates) (maxL := 3) (ret := (some .int)) (by decide) rfl ?_
  intro p e s m args below meth c s₁ B hml hv
  obtain ⟨rfl, hP, hK, hD0, hE0⟩ := hv
  have hx := B.exec
  have hb := B.bytes
  have hRt := B.returns
  have hts := atoms_spec (ws := wsX3_setPlates) B.pre
  have hown : s.vm.findClass RX3 = some m.cls := findClass_of_methodNamed B.named
  have hlocks := B.notSynchronized
  have hAL : ∀ z9 : Nat, cA [(mm, .inr (3, [.int th, .int (nI d), .int (nI r), .int ld, .int pl, .ref ao, .ref al, .int li, .int tl, .int mo, .ref aw, .ref aq, .int mn])), (ao, .inl (cI, 4, .inl fo)), (al, .inl (cI, 31, .inl fl))] z9 → L0 ≤ z9 := fun z9 ⟨k9, e9, h9⟩ => hD0.2 k9 (z9, e9) h9
  have hD : va_D (cA [(mm, .inr (3, [.int th, .int (nI d), .int (nI r), .int ld, .int pl, .ref ao, .ref al, .int li, .int tl, .int mo, .ref aw, .ref aq, .int mn])), (ao, .inl (cI, 4, .inl fo)), (al, .inl (cI, 31, .inl fl))]) [(mm, .inr (3, [.int th, .int (nI d), .int (nI r), .int ld, .int pl, .ref ao, .ref al, .int li, .int tl, .int mo, .ref aw, .ref aq, .int mn])), (ao, .inl (cI, 4, .inl fo)), (al, .inl (cI, 31, .inl fl))] := ⟨hD0.1, fun k9 z9 h9 => cA_of h9⟩
  generalize hAe : cA [(mm, .inr (3, [.int th, .int (nI d), .int (nI r), .int ld, .int pl, .ref ao, .ref al, .int li, .int tl, .int mo, .ref aw, .ref aq, .int mn])), (ao, .inl (cI, 4, .inl fo)), (al, .inl (cI, 31, .inl fl))] = A at hD hAL ⊢
  have hS : va_S A s.heap s.heap [] := va_S.rf
  have hiX3 : ∀ w ∈ u_ws RX3 TX3 13, w ∈ wsX3_setPlates := by decide +kernel
  have hl := lv_entry ([.ref mm, .int v]) (n := 3) (Nat.le_of_ble_eq_true rfl)
  rw [lg_entry_eq]
  generalize (lg_sl ([.ref mm, .int v]) ++ List.replicate (3 - (lg_sl ([.ref mm, .int v])).length) Slot.unset).toArray = ls at hl ⊢
  have hl : lv_has ls 3 [(0, .ref mm), (1, .int v)] := hl
  refine lv_aload_n hx hb dX3_setPlates_0 rfl (lv_at hl 0 rfl) ?_
  refine lv_iconst (v := 0) hx hb dX3_setPlates_1 (by decide) ?_
  refine va_put (D := D) (ci := 3) (v := .int 0) (ty := .int) (C := RX3) (T := TX3) (N := 13) hx hb hts hiX3 tyX3 tyX3_ok nmX3 hown hK hP hD hS 0 rfl rfl 0 (by decide) (hts (.fieldLink RX3 26 "CraneReachModel" "thrown" "I") (by decide +kernel)) (fun _ h9 => h9) rfl (by decide +kernel) rfl rfl (Nat.le_of_ble_eq_true rfl) dX3_setPlates_2 (fun H locs hP hD hS => ?_)
  have hP : va_P D vwCl [(mm, .inr (3, [.int 0, .int (nI d), .int (nI r), .int ld, .int pl, .ref ao, .ref al, .int li, .int tl, .int mo, .ref aw, .ref aq, .int mn])), (ao, .inl (cI, 4, .inl fo)), (al, .inl (cI, 31, .inl fl))] H := hP
  have hD : va_D A [(mm, .inr (3, [.int 0, .int (nI d), .int (nI r), .int ld, .int pl, .ref ao, .ref al, .int li, .int tl, .int mo, .ref aw, .ref aq, .int mn])), (ao, .inl (cI, 4, .inl fo)), (al, .inl (cI, 31, .inl fl))] := hD
  refine lv_iload_n hx hb dX3_setPlates_5 rfl (lv_at hl 1 rfl) ?_
  refine lv_iconst (v := 0) hx hb dX3_setPlates_6 (by decide) ?_
  refine lv_bipush (v := 12) hx hb dX3_setPlates_7 (by decide) ?_
  have hPc := hP.sub (ws' := []) [] rfl
  have hDc : va_D (fun q : Nat => L0 ≤ q) [] := (hD.sub (ws' := []) [] (by decide) rfl).weaken (fun _ z9 _ h9 => hAL _ h9)
  have hKc := hK.sub (tys' := []) [] rfl
  refine c_callR (va_runS (As := [.int v, .int 0, .int 12]) (rest := []) ⟨hx, hb, hml, hown, hts⟩ (q_isIn l D L0 v 0 12) (va_cwS 3 hts gX3_setPlates_X3_isIn rfl rfl rfl (by decide +kernel) ⟨Nat.le_of_ble_eq_true rfl, Nat.le_of_ble_eq_true rfl⟩) ⟨cP_blind, cP_of hPc hKc hDc (kE_at hE0 hAL hS)⟩ rfl rfl hl.1 rfl (lv_room (Nat.le_of_ble_eq_true rfl)) dX3_setPlates_9 ⟨Nat.le_of_ble_eq_true rfl, Nat.le_of_ble_eq_true rfl⟩) ?_
  show W _ _ _ _ _ _ _ _ _ _ _ _ _ _ _ (F0 m 12 ls [.int (bI (decide (0 ≤ v) && decide (v ≤ 12)))])
  obtain ⟨b_1, hbv_2⟩ : ∃ z9 : Bool, z9 = (decide (0 ≤ v) && decide (v ≤ 12)) := ⟨_, rfl⟩
  refine c_top (show (bI (decide (0 ≤ v) && decide (v ≤ 12))) = bI b_1 from by rw [hbv_2]) ?_
  refine lv_if_ne (tgt := 21) hx hb dX3_setPlates_12 (by decide) (fun c_3 => ?_) (fun c_3 => ?_)
  · have hp : inR v 0 12 := by cases b_1 with | true => simpa using hbv_2.symm | false => exact absurd rfl c_3
    refine lv_aload_n hx hb dX3_setPlates_21 rfl (lv_at hl 0 rfl) ?_
    refine va_get (D := D) (ci := 3) (v := .int pl) (C := RX3) (T := TX3) (N := 13) hx hb hts hiX3 hown hK hP 0 rfl rfl 4 (by decide) (hts (.fieldLink RX3 46 "CraneReachModel" "plates" "I") (by decide +kernel)) (fun _ h9 => h9) rfl dX3_setPlates_22 ?_
    refine lv_istore_n (lv' := [(2, .int pl), (0, .ref mm), (1, .int v)]) hx hb dX3_setPlates_25 rfl hl (by decide) rfl (fun ls hl => ?_)
    refine lv_aload_n hx hb dX3_setPlates_26 rfl (lv_at hl 1 rfl) ?_
    refine lv_iload_n hx hb dX3_setPlates_27 rfl (lv_at hl 2 rfl) ?_
    refine va_put (D := D) (ci := 3) (v := .int v) (ty := .int) (C := RX3) (T := TX3) (N := 13) hx hb hts hiX3 tyX3 tyX3_ok nmX3 hown hK hP hD hS 0 rfl rfl 4 (by decide) (hts (.fieldLink RX3 46 "CraneReachModel" "plates" "I") (by decide +kernel)) (fun _ h9 => h9) rfl (by decide +kernel) rfl rfl (Nat.le_of_ble_eq_true rfl) dX3_setPlates_28 (fun H locs hP hD hS => ?_)
    have hP : va_P D vwCl [(mm, .inr (3, [.int 0, .int (nI d), .int (nI r), .int ld, .int v, .ref ao, .ref al, .int li, .int tl, .int mo, .ref aw, .ref aq, .int mn])), (ao, .inl (cI, 4, .inl fo)), (al, .inl (cI, 31, .inl fl))] H := hP
    have hD : va_D A [(mm, .inr (3, [.int 0, .int (nI d), .int (nI r), .int ld, .int v, .ref ao, .ref al, .int li, .int tl, .int mo, .ref aw, .ref aq, .int mn])), (ao, .inl (cI, 4, .inl fo)), (al, .inl (cI, 31, .inl fl))] := hD
    refine lv_aload_n hx hb dX3_setPlates_31 rfl (lv_at hl 1 rfl) ?_
    have hPc := hP.sub (ws' := [(mm, .inr (3, [.int 0, .int (nI d), .int (nI r), .int ld, .int v, .ref ao, .ref al, .int li, .int tl, .int mo, .ref aw, .ref aq, .int mn])), (ao, .inl (cI, 4, .inl fo)), (al, .inl (cI, 31, .inl fl))]) [0, 1, 2] rfl
    have hDc : va_D (fun q : Nat => L0 ≤ q) [(mm, .inr (3, [.int 0, .int (nI d), .int (nI r), .int ld, .int v, .ref ao, .ref al, .int li, .int tl, .int mo, .ref aw, .ref aq, .int mn])), (ao, .inl (cI, 4, .inl fo)), (al, .inl (cI, 31, .inl fl))] := (hD.sub (ws' := [(mm, .inr (3, [.int 0, .int (nI d), .int (nI r), .int ld, .int v, .ref ao, .ref al, .int li, .int tl, .int mo, .ref aw, .ref aq, .int mn])), (ao, .inl (cI, 4, .inl fo)), (al, .inl (cI, 31, .inl fl))]) [0, 1, 2] (by decide) rfl).weaken (fun _ z9 _ h9 => hAL _ h9)
    have hKc := hK.sub (tys' := [(cI, .int)]) [0] rfl
    refine c_callR (va_runV (As := []) (rest := []) ⟨hx, hb, hml, hown, hts⟩ (q_isSafe0 l D L0 cI mm ao al aw aq d r 0 ld v li tl mo mn fo fl hd hr) (cwV 0 hts gX3_setPlates_X3_isSafe_ rfl rfl rfl (by decide +kernel) ⟨Nat.le_of_ble_eq_true rfl, Nat.le_of_ble_eq_true rfl⟩) ⟨cP_blind, va_recv hKc hPc (ci := 3) (q0 := 0) rfl rfl, cP_of hPc hKc hDc (kE_at hE0 hAL hS)⟩ rfl rfl hl.1 rfl (lv_room (Nat.le_of_ble_eq_true rfl)) dX3_setPlates_32 ⟨Nat.le_of_ble_eq_true rfl, Nat.le_of_ble_eq_true rfl⟩) ?_
    show W _ _ _ _ _ _ _ _ _ _ _ _ _ _ _ (F0 m 35 ls [.int (bI (safS fo fl v ld d r))])
    obtain ⟨b_4, hbv_5⟩ : ∃ z9 : Bool, z9 = safS fo fl v ld d r := ⟨_, rfl⟩
    refine c_top (show (bI (safS fo fl v ld d r)) = bI b_4 from by rw [hbv_5]) ?_
    refine lv_if_eq (tgt := 40) hx hb dX3_setPlates_35 (by decide) (fun c_6 => ?_) (fun c_6 => ?_)
    · have hs : safS fo fl v ld d r = false := by rw [← hbv_5]; cases b_4 with | false => rfl | true => exact absurd c_6 (by decide)
      refine lv_aload_n hx hb dX3_setPlates_40 rfl (lv_at hl 1 rfl) ?_
      refine lv_iload_n hx hb dX3_setPlates_41 rfl (lv_at hl 0 rfl) ?_
      refine va_put (D := D) (ci := 3) (v := .int pl) (ty := .int) (C := RX3) (T := TX3) (N := 13) hx hb hts hiX3 tyX3 tyX3_ok nmX3 hown hK hP hD hS 0 rfl rfl 4 (by decide) (hts (.fieldLink RX3 46 "CraneReachModel" "plates" "I") (by decide +kernel)) (fun _ h9 => h9) rfl (by decide +kernel) rfl rfl (Nat.le_of_ble_eq_true rfl) dX3_setPlates_42 (fun H locs hP hD hS => ?_)
      have hP : va_P D vwCl [(mm, .inr (3, [.int 0, .int (nI d), .int (nI r), .int ld, .int pl, .ref ao, .ref al, .int li, .int tl, .int mo, .ref aw, .ref aq, .int mn])), (ao, .inl (cI, 4, .inl fo)), (al, .inl (cI, 31, .inl fl))] H := hP
      have hD : va_D A [(mm, .inr (3, [.int 0, .int (nI d), .int (nI r), .int ld, .int pl, .ref ao, .ref al, .int li, .int tl, .int mo, .ref aw, .ref aq, .int mn])), (ao, .inl (cI, 4, .inl fo)), (al, .inl (cI, 31, .inl fl))] := hD
      refine lv_aload_n hx hb dX3_setPlates_45 rfl (lv_at hl 1 rfl) ?_
      refine lv_iconst (v := 2) hx hb dX3_setPlates_46 (by decide) ?_
      have hPc := hP.sub (ws' := [(mm, .inr (3, [.int 0, .int (nI d), .int (nI r), .int ld, .int pl, .ref ao, .ref al, .int li, .int tl, .int mo, .ref aw, .ref aq, .int mn]))]) [0] rfl
      have hDc : va_D (fun q : Nat => L0 ≤ q) [(mm, .inr (3, [.int 0, .int (nI d), .int (nI r), .int ld, .int pl, .ref ao, .ref al, .int li, .int tl, .int mo, .ref aw, .ref aq, .int mn]))] := (hD.sub (ws' := [(mm, .inr (3, [.int 0, .int (nI d), .int (nI r), .int ld, .int pl, .ref ao, .ref al, .int li, .int tl, .int mo, .ref aw, .ref aq, .int mn]))]) [0] (by decide) rfl).weaken (fun _ z9 _ h9 => hAL _ h9)
      have hKc := hK.sub (tys' := []) [] rfl
      refine c_callB (va_runV (As := [.int 2]) (rest := []) ⟨hx, hb, hml, hown, hts⟩ (q_no l D L0 mm ao al aw aq d r 0 ld pl li tl mo mn 2) (cwV 1 hts gX3_setPlates_X3_no rfl rfl rfl (by decide +kernel) ⟨Nat.le_of_ble_eq_true rfl, Nat.le_of_ble_eq_true rfl⟩) ⟨cP_blind, va_recv hKc hPc (ci := 3) (q0 := 0) rfl rfl, cP_of hPc hKc hDc (kE_at hE0 hAL hS)⟩ rfl rfl hl.1 rfl (lv_room (Nat.le_of_ble_eq_true rfl)) dX3_setPlates_47 ⟨Nat.le_of_ble_eq_true rfl, Nat.le_of_ble_eq_true rfl⟩) hS (fun z9 _ ⟨k9, e9, h9⟩ => (hD.sub (ws' := [(mm, .inr (3, [.int 0, .int (nI d), .int (nI r), .int ld, .int pl, .ref ao, .ref al, .int li, .int tl, .int mo, .ref aw, .ref aq, .int mn]))]) [0] (by decide) rfl).2 k9 (z9, e9) h9) (fun z9 ⟨k9, e9, h9⟩ => (hD.sub (ws' := [(mm, .inr (3, [.int 0, .int (nI d), .int (nI r), .int ld, .int pl, .ref ao, .ref al, .int li, .int tl, .int mo, .ref aw, .ref aq, .int mn]))]) [0] (by decide) rfl).2 k9 (z9, e9) h9) (fun H1 locs hB hz1 hk1 hS => ?_)
      obtain ⟨hP, hD⟩ := c_join (ws' := [(mm, .inr (3, [.int 2, .int (nI d), .int (nI r), .int ld, .int pl, .ref ao, .ref al, .int li, .int tl, .int mo, .ref aw, .ref aq, .int mn])), (ao, .inl (cI, 4, .inl fo)), (al, .inl (cI, 31, .inl fl))]) (wr := [(ao, .inl (cI, 4, .inl fo)), (al, .inl (cI, 31, .inl fl))]) (w1 := [(mm, .inr (3, [.int 2, .int (nI d), .int (nI r), .int ld, .int pl, .ref ao, .ref al, .int li, .int tl, .int mo, .ref aw, .ref aq, .int mn]))]) hP hD [0] [1, 2] [2, 0, 1] rfl rfl (by decide) (by decide) hk1 hB rfl rfl rfl (by decide)
      generalize H1 = H at hP hS ⊢
      show W _ _ _ _ _ _ _ _ _ _ _ _ _ _ _ (F0 m 50 ls [.int 0])
      have hK1 : kSP (fun q => safS fo fl q ld d r) v = 2 := by rw [kSP, if_pos hp, if_neg (by rw [hs]; decide)]
      have hKn : ¬ kSP (fun q => safS fo fl q ld d r) v = 0 := by rw [hK1]; decide
      exact W.iret (v := 0) hx hb hRt (fun t ht hW => ⟨⟨by simp only [if_neg hKn], by rw [ht]; exact (by simp only [if_neg hKn]; rw [hK1]; exact hP)⟩, hS.F ht⟩) hS.2.2 dX3_setPlates_50
    · have hs : safS fo fl v ld d r = true := by rw [← hbv_5]; cases b_4 with | true => rfl | false => exact absurd rfl c_6
      refine lv_iload_n hx hb dX3_setPlates_38 rfl (lv_at hl 0 rfl) ?_
      have hK1 : kSP (fun q => safS fo fl q ld d r) v = 0 := by rw [kSP, if_pos hp, if_pos hs]
      exact W.iret (v := pl) hx hb hRt (fun t ht hW => ⟨⟨by simp only [if_pos hK1], by rw [ht]; exact (by simp only [if_pos hK1]; rw [hK1]; exact hP)⟩, hS.F ht⟩) hS.2.2 dX3_setPlates_39
  · have hn : ¬ (inR v 0 12) := fun hp => absurd c_3 (by rw [hbv_2]; simp [hp.1, hp.2, bI])
    refine lv_aload_n hx hb dX3_setPlates_15 rfl (lv_at hl 0 rfl) ?_
    refine lv_iconst (v := 1) hx hb dX3_setPlates_16 (by decide) ?_
    have hPc := hP.sub (ws' := [(mm, .inr (3, [.int 0, .int (nI d), .int (nI r), .int ld, .int pl, .ref ao, .ref al, .int li, .int tl, .int mo, .ref aw, .ref aq, .int mn]))]) [0] rfl
    have hDc : va_D (fun q : Nat => L0 ≤ q) [(mm, .inr (3, [.int 0, .int (nI d), .int (nI r), .int ld, .int pl, .ref ao, .ref al, .int li, .int tl, .int mo, .ref aw, .ref aq, .int mn]))] := (hD.sub (ws' := [(mm, .inr (3, [.int 0, .int (nI d), .int (nI r), .int ld, .int pl, .ref ao, .ref al, .int li, .int tl, .int mo, .ref aw, .ref aq, .int mn]))]) [0] (by decide) rfl).weaken (fun _ z9 _ h9 => hAL _ h9)
    have hKc := hK.sub (tys' := []) [] rfl
    refine c_callB (va_runV (As := [.int 1]) (rest := []) ⟨hx, hb, hml, hown, hts⟩ (q_no l D L0 mm ao al aw aq d r 0 ld pl li tl mo mn 1) (cwV 1 hts gX3_setPlates_X3_no rfl rfl rfl (by decide +kernel) ⟨Nat.le_of_ble_eq_true rfl, Nat.le_of_ble_eq_true rfl⟩) ⟨cP_blind, va_recv hKc hPc (ci := 3) (q0 := 0) rfl rfl, cP_of hPc hKc hDc (kE_at hE0 hAL hS)⟩ rfl rfl hl.1 rfl (lv_room (Nat.le_of_ble_eq_true rfl)) dX3_setPlates_17 ⟨Nat.le_of_ble_eq_true rfl, Nat.le_of_ble_eq_true rfl⟩) hS (fun z9 _ ⟨k9, e9, h9⟩ => (hD.sub (ws' := [(mm, .inr (3, [.int 0, .int (nI d), .int (nI r), .int ld, .int pl, .ref ao, .ref al, .int li, .int tl, .int mo, .ref aw, .ref aq, .int mn]))]) [0] (by decide) rfl).2 k9 (z9, e9) h9) (fun z9 ⟨k9, e9, h9⟩ => (hD.sub (ws' := [(mm, .inr (3, [.int 0, .int (nI d), .int (nI r), .int ld, .int pl, .ref ao, .ref al, .int li, .int tl, .int mo, .ref aw, .ref aq, .int mn]))]) [0] (by decide) rfl).2 k9 (z9, e9) h9) (fun H1 locs hB hz1 hk1 hS => ?_)
    obtain ⟨hP, hD⟩ := c_join (ws' := [(mm, .inr (3, [.int 1, .int (nI d), .int (nI r), .int ld, .int pl, .ref ao, .ref al, .int li, .int tl, .int mo, .ref aw, .ref aq, .int mn])), (ao, .inl (cI, 4, .inl fo)), (al, .inl (cI, 31, .inl fl))]) (wr := [(ao, .inl (cI, 4, .inl fo)), (al, .inl (cI, 31, .inl fl))]) (w1 := [(mm, .inr (3, [.int 1, .int (nI d), .int (nI r), .int ld, .int pl, .ref ao, .ref al, .int li, .int tl, .int mo, .ref aw, .ref aq, .int mn]))]) hP hD [0] [1, 2] [2, 0, 1] rfl rfl (by decide) (by decide) hk1 hB rfl rfl rfl (by decide)
    generalize H1 = H at hP hS ⊢
    show W _ _ _ _ _ _ _ _ _ _ _ _ _ _ _ (F0 m 20 ls [.int 0])
    have hK1 : kSP (fun q => safS fo fl q ld d r) v = 1 := by rw [kSP, if_neg hn]
    have hKn : ¬ kSP (fun q => safS fo fl q ld d r) v = 0 := by rw [hK1]; decide
    exact W.iret (v := 0) hx hb hRt (fun t ht hW => ⟨⟨by simp only [if_neg hKn], by rw [ht]; exact (by simp only [if_neg hKn]; rw [hK1]; exact hP)⟩, hS.F ht⟩) hS.2.2 dX3_setPlates_20
set_option maxHeartbeats 4000000 in
set_option maxRecDepth 100000 in
/-- setOutrigger -/
theorem q_setOutrigger (l : Launch) (D : va_G) (L0 : Nat) (cI : ClassId) (mm ao al aw aq d r : Nat) (th ld pl li tl mo mn : Int32) (fo fl : Nat → Int32) (v u : Int32) (hd : d < 8) (hr : 3 ≤ r ∧ r ≤ 30) : Met l yX3_setOutrigger wsX3_setOutrigger ({ frames := 4, cells := 0, slots := 0, locals := 101 }) (cP L0 D [(cI, .int)] [(mm, .inr (3, [.int th, .int (nI d), .int (nI r), .int ld, .int pl, .ref ao, .ref al, .int li, .int tl, .int mo, .ref aw, .ref aq, .int mn])), (ao, .inl (cI, 4, .inl fo)), (al, .inl (cI, 31, .inl fl))] [.ref mm, .int v, .int u]) (cB (some (.int (if kSO ld (fun k q => safS (upd fo k q) fl pl ld d r) v u = 0 then fo v.toNatClampNeg else 0))) (fun H => va_P D vwCl [(mm, .inr (3, [.int (kSO ld (fun k q => safS (upd fo k q) fl pl ld d r) v u), .int (nI d), .int (nI r), .int ld, .int pl, .ref ao, .ref al, .int li, .int tl, .int mo, .ref aw, .ref aq, .int mn])), (ao, .inl (cI, 4, .inl (if kSO ld (fun k q => safS (upd fo k q) fl pl ld d r) v u = 0 then upd fo v.toNatClampNeg u else fo))), (al, .inl (cI, 31, .inl fl))] H) (cA [(mm, .inr (3, [.int th, .int (nI d), .int (nI r), .int ld, .int pl, .ref ao, .ref al, .int li, .int tl, .int mo, .ref aw, .ref aq, .int mn])), (ao, .inl (cI, 4, .inl fo)), (al, .inl (cI, 31, .inl fl))])) 0 0 (cA [(mm, .inr (3, [.int th, .int (nI d), .int (nI r), .int ld, .int pl, .ref ao, .ref al, .int li, .int tl, .int mo, .ref aw, .ref aq, .int mn])), (ao, .inl (cI, 4, .inl fo)), (al, .inl (cI, 31, .inl fl))]) := by
  refine Met.ofW (cc := cX3_setOutrigger) (maxL := 4) (ret := (some .int)) (by decide) rfl ?_
  intro p e s m args below meth c s₁ B hml hv
  obtain ⟨rfl, hP, hK, hD0, hE0⟩ := hv
  have hx := B.exec
  have hb := B.bytes
  have hRt := B.returns
  have hts := atoms_spec (ws := wsX3_setOutrigger) B.pre
  have hown : s.vm.findClass RX3 = some m.cls := findClass_of_methodNamed B.named
  have hlocks := B.notSynchronized
  have hAL : ∀ z9 : Nat, cA [(mm, .inr (3, [.int th, .int (nI d), .int (nI r), .int ld, .int pl, .ref ao, .ref al, .int li, .int tl, .int mo, .ref aw, .ref aq, .int mn])), (ao, .inl (cI, 4, .inl fo)), (al, .inl (cI, 31, .inl fl))] z9 → L0 ≤ z9 := fun z9 ⟨k9, e9, h9⟩ => hD0.2 k9 (z9, e9) h9
  have hD : va_D (cA [(mm, .inr (3, [.int th, .int (nI d), .int (nI r), .int ld, .int pl, .ref ao, .ref al, .int li, .int tl, .int mo, .ref aw, .ref aq, .int mn])), (ao, .inl (cI, 4, .inl fo)), (al, .inl (cI, 31, .inl fl))]) [(mm, .inr (3, [.int th, .int (nI d), .int (nI r), .int ld, .int pl, .ref ao, .ref al, .int li, .int tl, .int mo, .ref aw, .ref aq, .int mn])), (ao, .inl (cI, 4, .inl fo)), (al, .inl (cI, 31, .inl fl))] := ⟨hD0.1, fun k9 z9 h9 => cA_of h9⟩
  generalize hAe : cA [(mm, .inr (3, [.int th, .int (nI d), .int (nI r), .int ld, .int pl, .ref ao, .ref al, .int li, .int tl, .int mo, .ref aw, .ref aq, .int mn])), (ao, .inl (cI, 4, .inl fo)), (al, .inl (cI, 31, .inl fl))] = A at hD hAL ⊢
  have hS : va_S A s.heap s.heap [] := va_S.rf
  have hiX3 : ∀ w ∈ u_ws RX3 TX3 13, w ∈ wsX3_setOutrigger := by decide +kernel
  have hl := lv_entry ([.ref mm, .int v, .int u]) (n := 4) (Nat.le_of_ble_eq_true rfl)
  rw [lg_entry_eq]
  generalize (lg_sl ([.ref mm, .int v, .int u]) ++ List.replicate (4 - (lg_sl ([.ref mm, .int v, .int u])).length) Slot.unset).toArray = ls at hl ⊢
  have hl : lv_has ls 4 [(0, .ref mm), (1, .int v), (2, .int u)] := hl
  refine lv_aload_n hx hb dX3_setOutrigger_0 rfl (lv_at hl 0 rfl) ?_
  refine lv_iconst (v := 0) hx hb dX3_setOutrigger_1 (by decide) ?_
  refine va_put (D := D) (ci := 3) (v := .int 0) (ty := .int) (C := RX3) (T := TX3) (N := 13) hx hb hts hiX3 tyX3 tyX3_ok nmX3 hown hK hP hD hS 0 rfl rfl 0 (by decide) (hts (.fieldLink RX3 26 "CraneReachModel" "thrown" "I") (by decide +kernel)) (fun _ h9 => h9) rfl (by decide +kernel) rfl rfl (Nat.le_of_ble_eq_true rfl) dX3_setOutrigger_2 (fun H locs hP hD hS => ?_)
  have hP : va_P D vwCl [(mm, .inr (3, [.int 0, .int (nI d), .int (nI r), .int ld, .int pl, .ref ao, .ref al, .int li, .int tl, .int mo, .ref aw, .ref aq, .int mn])), (ao, .inl (cI, 4, .inl fo)), (al, .inl (cI, 31, .inl fl))] H := hP
  have hD : va_D A [(mm, .inr (3, [.int 0, .int (nI d), .int (nI r), .int ld, .int pl, .ref ao, .ref al, .int li, .int tl, .int mo, .ref aw, .ref aq, .int mn])), (ao, .inl (cI, 4, .inl fo)), (al, .inl (cI, 31, .inl fl))] := hD
  refine lv_iload_n hx hb dX3_setOutrigger_5 rfl (lv_at hl 1 rfl) ?_
  have hPc := hP.sub (ws' := []) [] rfl
  have hDc : va_D (fun q : Nat => L0 ≤ q) [] := (hD.sub (ws' := []) [] (by decide) rfl).weaken (fun _ z9 _ h9 => hAL _ h9)
  have hKc := hK.sub (tys' := []) [] rfl
  refine c_callR (va_runS (As := [.int v]) (rest := []) ⟨hx, hb, hml, hown, hts⟩ (q_isSide l D L0 v) (va_cwS 1 hts gX3_setOutrigger_X3_isSide rfl rfl rfl (by decide +kernel) ⟨Nat.le_of_ble_eq_true rfl, Nat.le_of_ble_eq_true rfl⟩) ⟨cP_blind, cP_of hPc hKc hDc (kE_at hE0 hAL hS)⟩ rfl rfl hl.1 rfl (lv_room (Nat.le_of_ble_eq_true rfl)) dX3_setOutrigger_6 ⟨Nat.le_of_ble_eq_true rfl, Nat.le_of_ble_eq_true rfl⟩) ?_
  show W _ _ _ _ _ _ _ _ _ _ _ _ _ _ _ (F0 m 9 ls [.int (bI (decide (0 ≤ v) && decide (v ≤ 3)))])
  obtain ⟨b_7, hbv_8⟩ : ∃ z9 : Bool, z9 = (decide (0 ≤ v) && decide (v ≤ 3)) := ⟨_, rfl⟩
  refine c_top (show (bI (decide (0 ≤ v) && decide (v ≤ 3))) = bI b_7 from by rw [hbv_8]) ?_
  refine lv_if_ne (tgt := 18) hx hb dX3_setOutrigger_9 (by decide) (fun c_9 => ?_) (fun c_9 => ?_)
  · have hp1 : inR v 0 3 := by cases b_7 with | true => simpa using hbv_8.symm | false => exact absurd rfl c_9
    refine lv_iload_n hx hb dX3_setOutrigger_18 rfl (lv_at hl 2 rfl) ?_
    refine lv_iconst (v := 0) hx hb dX3_setOutrigger_19 (by decide) ?_
    refine lv_bipush (v := 6) hx hb dX3_setOutrigger_20 (by decide) ?_
    have hPc := hP.sub (ws' := []) [] rfl
    have hDc : va_D (fun q : Nat => L0 ≤ q) [] := (hD.sub (ws' := []) [] (by decide) rfl).weaken (fun _ z9 _ h9 => hAL _ h9)
    have hKc := hK.sub (tys' := []) [] rfl
    refine c_callR (va_runS (As := [.int u, .int 0, .int 6]) (rest := []) ⟨hx, hb, hml, hown, hts⟩ (q_isIn l D L0 u 0 6) (va_cwS 3 hts gX3_setOutrigger_X3_isIn rfl rfl rfl (by decide +kernel) ⟨Nat.le_of_ble_eq_true rfl, Nat.le_of_ble_eq_true rfl⟩) ⟨cP_blind, cP_of hPc hKc hDc (kE_at hE0 hAL hS)⟩ rfl rfl hl.1 rfl (lv_room (Nat.le_of_ble_eq_true rfl)) dX3_setOutrigger_22 ⟨Nat.le_of_ble_eq_true rfl, Nat.le_of_ble_eq_true rfl⟩) ?_
    show W _ _ _ _ _ _ _ _ _ _ _ _ _ _ _ (F0 m 25 ls [.int (bI (decide (0 ≤ u) && decide (u ≤ 6)))])
    obtain ⟨b_10, hbv_11⟩ : ∃ z9 : Bool, z9 = (decide (0 ≤ u) && decide (u ≤ 6)) := ⟨_, rfl⟩
    refine c_top (show (bI (decide (0 ≤ u) && decide (u ≤ 6))) = bI b_10 from by rw [hbv_11]) ?_
    refine lv_if_ne (tgt := 34) hx hb dX3_setOutrigger_25 (by decide) (fun c_12 => ?_) (fun c_12 => ?_)
    · have hp2 : inR u 0 6 := by cases b_10 with | true => simpa using hbv_11.symm | false => exact absurd rfl c_12
      obtain ⟨kv, hkv, hv⟩ := inR_nI (n := 3) (by decide) hp1
      have hvn : v.toNatClampNeg = kv := by rw [hv, nI_clamp (by omega)]
      have hl : lv_has ls 4 [(0, .ref mm), (1, .int (nI kv)), (2, .int u)] := (show v = nI kv from hv) ▸ hl
      refine lv_aload_n hx hb dX3_setOutrigger_34 rfl (lv_at hl 0 rfl) ?_
      refine va_get (D := D) (ci := 3) (v := .ref ao) (C := RX3) (T := TX3) (N := 13) hx hb hts hiX3 hown hK hP 0 rfl rfl 5 (by decide) (hts (.fieldLink RX3 13 "CraneReachModel" "out" "[I") (by decide +kernel)) (fun _ h9 => h9) rfl dX3_setOutrigger_35 ?_
      refine lv_iload_n hx hb dX3_setOutrigger_38 rfl (lv_at hl 1 rfl) ?_
      refine va_iald hx hb hK hP 1 0 rfl rfl (vp_in_nI (by omega) (by decide)) dX3_setOutrigger_39 ?_
      refine c_top (show (fo (nI kv).toNatClampNeg) = fo kv from by rw [nI_clamp (by omega)]) ?_
      refine lv_istore_n (lv' := [(3, .int (fo kv)), (0, .ref mm), (1, .int (nI kv)), (2, .int u)]) hx hb dX3_setOutrigger_40 rfl hl (by decide) rfl (fun ls hl => ?_)
      refine lv_aload_n hx hb dX3_setOutrigger_41 rfl (lv_at hl 1 rfl) ?_
      refine va_get (D := D) (ci := 3) (v := .ref ao) (C := RX3) (T := TX3) (N := 13) hx hb hts hiX3 hown hK hP 0 rfl rfl 5 (by decide) (hts (.fieldLink RX3 13 "CraneReachModel" "out" "[I") (by decide +kernel)) (fun _ h9 => h9) rfl dX3_setOutrigger_42 ?_
      refine lv_iload_n hx hb dX3_setOutrigger_45 rfl (lv_at hl 2 rfl) ?_
      refine lv_iload_n hx hb dX3_setOutrigger_46 rfl (lv_at hl 3 rfl) ?_
      refine va_iast hx hb hK hP hD hS 1 0 rfl rfl (vp_in_nI (by omega) (by decide)) dX3_setOutrigger_47 (fun H locs hP hD hS => ?_)
      have hP : va_P D vwCl [(mm, .inr (3, [.int 0, .int (nI d), .int (nI r), .int ld, .int pl, .ref ao, .ref al, .int li, .int tl, .int mo, .ref aw, .ref aq, .int mn])), (ao, .inl (cI, 4, .inl (upd fo (nI kv).toNatClampNeg u))), (al, .inl (cI, 31, .inl fl))] H := hP
      have hD : va_D A [(mm, .inr (3, [.int 0, .int (nI d), .int (nI r), .int ld, .int pl, .ref ao, .ref al, .int li, .int tl, .int mo, .ref aw, .ref aq, .int mn])), (ao, .inl (cI, 4, .inl (upd fo (nI kv).toNatClampNeg u))), (al, .inl (cI, 31, .inl fl))] := hD
      rw [show (nI kv).toNatClampNeg = kv from nI_clamp (by omega)] at hP hD
      have hP : va_P D vwCl [(mm, .inr (3, [.int 0, .int (nI d), .int (nI r), .int ld, .int pl, .ref ao, .ref al, .int li, .int tl, .int mo, .ref aw, .ref aq, .int mn])), (ao, .inl (cI, 4, .inl (upd fo kv u))), (al, .inl (cI, 31, .inl fl))] H := hP
      have hD : va_D A [(mm, .inr (3, [.int 0, .int (nI d), .int (nI r), .int ld, .int pl, .ref ao, .ref al, .int li, .int tl, .int mo, .ref aw, .ref aq, .int mn])), (ao, .inl (cI, 4, .inl (upd fo kv u))), (al, .inl (cI, 31, .inl fl))] := hD
      refine lv_aload_n hx hb dX3_setOutrigger_48 rfl (lv_at hl 1 rfl) ?_
      refine va_get (D := D) (ci := 3) (v := .int ld) (C := RX3) (T := TX3) (N := 13) hx hb hts hiX3 hown hK hP 0 rfl rfl 3 (by decide) (hts (.fieldLink RX3 53 "CraneReachModel" "load" "I") (by decide +kernel)) (fun _ h9 => h9) rfl dX3_setOutrigger_49 ?_
      refine lv_if_ne (tgt := 64) hx hb dX3_setOutrigger_52 (by decide) (fun c_13 => ?_) (fun c_13 => ?_)
      · refine lv_aload_n hx hb dX3_setOutrigger_64 rfl (lv_at hl 1 rfl) ?_
        refine va_get (D := D) (ci := 3) (v := .ref ao) (C := RX3) (T := TX3) (N := 13) hx hb hts hiX3 hown hK hP 0 rfl rfl 5 (by decide) (hts (.fieldLink RX3 13 "CraneReachModel" "out" "[I") (by decide +kernel)) (fun _ h9 => h9) rfl dX3_setOutrigger_65 ?_
        refine lv_iload_n hx hb dX3_setOutrigger_68 rfl (lv_at hl 2 rfl) ?_
        refine lv_iload_n hx hb dX3_setOutrigger_69 rfl (lv_at hl 0 rfl) ?_
        refine va_iast hx hb hK hP hD hS 1 0 rfl rfl (vp_in_nI (by omega) (by decide)) dX3_setOutrigger_70 (fun H locs hP hD hS => ?_)
        have hP : va_P D vwCl [(mm, .inr (3, [.int 0, .int (nI d), .int (nI r), .int ld, .int pl, .ref ao, .ref al, .int li, .int tl, .int mo, .ref aw, .ref aq, .int mn])), (ao, .inl (cI, 4, .inl (upd (upd fo kv u) (nI kv).toNatClampNeg (fo kv)))), (al, .inl (cI, 31, .inl fl))] H := hP
        have hD : va_D A [(mm, .inr (3, [.int 0, .int (nI d), .int (nI r), .int ld, .int pl, .ref ao, .ref al, .int li, .int tl, .int mo, .ref aw, .ref aq, .int mn])), (ao, .inl (cI, 4, .inl (upd (upd fo kv u) (nI kv).toNatClampNeg (fo kv)))), (al, .inl (cI, 31, .inl fl))] := hD
        rw [show (nI kv).toNatClampNeg = kv from nI_clamp (by omega)] at hP hD
        rw [upd_back] at hP hD
        have hP : va_P D vwCl [(mm, .inr (3, [.int 0, .int (nI d), .int (nI r), .int ld, .int pl, .ref ao, .ref al, .int li, .int tl, .int mo, .ref aw, .ref aq, .int mn])), (ao, .inl (cI, 4, .inl fo)), (al, .inl (cI, 31, .inl fl))] H := hP
        have hD : va_D A [(mm, .inr (3, [.int 0, .int (nI d), .int (nI r), .int ld, .int pl, .ref ao, .ref al, .int li, .int tl, .int mo, .ref aw, .ref aq, .int mn])), (ao, .inl (cI, 4, .inl fo)), (al, .inl (cI, 31, .inl fl))] := hD
        refine lv_aload_n hx hb dX3_setOutrigger_71 rfl (lv_at hl 1 rfl) ?_
        refine lv_iconst (v := 3) hx hb dX3_setOutrigger_72 (by decide) ?_
        have hPc := hP.sub (ws' := [(mm, .inr (3, [.int 0, .int (nI d), .int (nI r), .int ld, .int pl, .ref ao, .ref al, .int li, .int tl, .int mo, .ref aw, .ref aq, .int mn]))]) [0] rfl
        have hDc : va_D (fun q : Nat => L0 ≤ q) [(mm, .inr (3, [.int 0, .int (nI d), .int (nI r), .int ld, .int pl, .ref ao, .ref al, .int li, .int tl, .int mo, .ref aw, .ref aq, .int mn]))] := (hD.sub (ws' := [(mm, .inr (3, [.int 0, .int (nI d), .int (nI r), .int ld, .int pl, .ref ao, .ref al, .int li, .int tl, .int mo, .ref aw, .ref aq, .int mn]))]) [0] (by decide) rfl).weaken (fun _ z9 _ h9 => hAL _ h9)
        have hKc := hK.sub (tys' := []) [] rfl
        refine c_callB (va_runV (As := [.int 3]) (rest := []) ⟨hx, hb, hml, hown, hts⟩ (q_no l D L0 mm ao al aw aq d r 0 ld pl li tl mo mn 3) (cwV 1 hts gX3_setOutrigger_X3_no rfl rfl rfl (by decide +kernel) ⟨Nat.le_of_ble_eq_true rfl, Nat.le_of_ble_eq_true rfl⟩) ⟨cP_blind, va_recv hKc hPc (ci := 3) (q0 := 0) rfl rfl, cP_of hPc hKc hDc (kE_at hE0 hAL hS)⟩ rfl rfl hl.1 rfl (lv_room (Nat.le_of_ble_eq_true rfl)) dX3_setOutrigger_73 ⟨Nat.le_of_ble_eq_true rfl, Nat.le_of_ble_eq_true rfl⟩) hS (fun z9 _ ⟨k9, e9, h9⟩ => (hD.sub (ws' := [(mm, .inr (3, [.int 0, .int (nI d), .int (nI r), .int ld, .int pl, .ref ao, .ref al, .int li, .int tl, .int mo, .ref aw, .ref aq, .int mn]))]) [0] (by decide) rfl).2 k9 (z9, e9) h9) (fun z9 ⟨k9, e9, h9⟩ => (hD.sub (ws' := [(mm, .inr (3, [.int 0, .int (nI d), .int (nI r), .int ld, .int pl, .ref ao, .ref al, .int li, .int tl, .int mo, .ref aw, .ref aq, .int mn]))]) [0] (by decide) rfl).2 k9 (z9, e9) h9) (fun H1 locs hB hz1 hk1 hS => ?_)
        obtain ⟨hP, hD⟩ := c_join (ws' := [(mm, .inr (3, [.int 3, .int (nI d), .int (nI r), .int ld, .int pl, .ref ao, .ref al, .int li, .int tl, .int mo, .ref aw, .ref aq, .int mn])), (ao, .inl (cI, 4, .inl fo)), (al, .inl (cI, 31, .inl fl))]) (wr := [(ao, .inl (cI, 4, .inl fo)), (al, .inl (cI, 31, .inl fl))]) (w1 := [(mm, .inr (3, [.int 3, .int (nI d), .int (nI r), .int ld, .int pl, .ref ao, .ref al, .int li, .int tl, .int mo, .ref aw, .ref aq, .int mn]))]) hP hD [0] [1, 2] [2, 0, 1] rfl rfl (by decide) (by decide) hk1 hB rfl rfl rfl (by decide)
        generalize H1 = H at hP hS ⊢
        show W _ _ _ _ _ _ _ _ _ _ _ _ _ _ _ (F0 m 76 ls [.int 0])
        have hK1 : kSO ld (fun k q => safS (upd fo k q) fl pl ld d r) v u = 3 := by rw [kSO, if_pos hp1, if_pos hp2, if_neg (fun z => c_13 z.1)]
        have hKn : ¬ kSO ld (fun k q => safS (upd fo k q) fl pl ld d r) v u = 0 := by rw [hK1]; decide
        exact W.iret (v := 0) hx hb hRt (fun t ht hW => ⟨⟨by simp only [if_neg hKn], by rw [ht]; exact (by simp only [if_neg hKn]; rw [hK1]; exact hP)⟩, hS.F ht⟩) hS.2.2 dX3_setOutrigger_76
      · refine lv_aload_n hx hb dX3_setOutrigger_55 rfl (lv_at hl 1 rfl) ?_
        have hPc := hP.sub (ws' := [(mm, .inr (3, [.int 0, .int (nI d), .int (nI r), .int ld, .int pl, .ref ao, .ref al, .int li, .int tl, .int mo, .ref aw, .ref aq, .int mn])), (ao, .inl (cI, 4, .inl (upd fo kv u))), (al, .inl (cI, 31, .inl fl))]) [0, 1, 2] rfl
        have hDc : va_D (fun q : Nat => L0 ≤ q) [(mm, .inr (3, [.int 0, .int (nI d), .int (nI r), .int ld, .int pl, .ref ao, .ref al, .int li, .int tl, .int mo, .ref aw, .ref aq, .int mn])), (ao, .inl (cI, 4, .inl (upd fo kv u))), (al, .inl (cI, 31, .inl fl))] := (hD.sub (ws' := [(mm, .inr (3, [.int 0, .int (nI d), .int (nI r), .int ld, .int pl, .ref ao, .ref al, .int li, .int tl, .int mo, .ref aw, .ref aq, .int mn])), (ao, .inl (cI, 4, .inl (upd fo kv u))), (al, .inl (cI, 31, .inl fl))]) [0, 1, 2] (by decide) rfl).weaken (fun _ z9 _ h9 => hAL _ h9)
        have hKc := hK.sub (tys' := [(cI, .int)]) [0] rfl
        refine c_callR (va_runV (As := []) (rest := []) ⟨hx, hb, hml, hown, hts⟩ (q_isSafe0 l D L0 cI mm ao al aw aq d r 0 ld pl li tl mo mn (upd fo kv u) fl hd hr) (cwV 0 hts gX3_setOutrigger_X3_isSafe_ rfl rfl rfl (by decide +kernel) ⟨Nat.le_of_ble_eq_true rfl, Nat.le_of_ble_eq_true rfl⟩) ⟨cP_blind, va_recv hKc hPc (ci := 3) (q0 := 0) rfl rfl, cP_of hPc hKc hDc (kE_at hE0 hAL hS)⟩ rfl rfl hl.1 rfl (lv_room (Nat.le_of_ble_eq_true rfl)) dX3_setOutrigger_56 ⟨Nat.le_of_ble_eq_true rfl, Nat.le_of_ble_eq_true rfl⟩) ?_
        show W _ _ _ _ _ _ _ _ _ _ _ _ _ _ _ (F0 m 59 ls [.int (bI (safS (upd fo kv u) fl pl ld d r))])
        obtain ⟨b_14, hbv_15⟩ : ∃ z9 : Bool, z9 = safS (upd fo kv u) fl pl ld d r := ⟨_, rfl⟩
        refine c_top (show (bI (safS (upd fo kv u) fl pl ld d r)) = bI b_14 from by rw [hbv_15]) ?_
        refine lv_if_eq (tgt := 64) hx hb dX3_setOutrigger_59 (by decide) (fun c_16 => ?_) (fun c_16 => ?_)
        · have hs : safS (upd fo kv u) fl pl ld d r = false := by rw [← hbv_15]; cases b_14 with | false => rfl | true => exact absurd c_16 (by decide)
          refine lv_aload_n hx hb dX3_setOutrigger_64 rfl (lv_at hl 1 rfl) ?_
          refine va_get (D := D) (ci := 3) (v := .ref ao) (C := RX3) (T := TX3) (N := 13) hx hb hts hiX3 hown hK hP 0 rfl rfl 5 (by decide) (hts (.fieldLink RX3 13 "CraneReachModel" "out" "[I") (by decide +kernel)) (fun _ h9 => h9) rfl dX3_setOutrigger_65 ?_
          refine lv_iload_n hx hb dX3_setOutrigger_68 rfl (lv_at hl 2 rfl) ?_
          refine lv_iload_n hx hb dX3_setOutrigger_69 rfl (lv_at hl 0 rfl) ?_
          refine va_iast hx hb hK hP hD hS 1 0 rfl rfl (vp_in_nI (by omega) (by decide)) dX3_setOutrigger_70 (fun H locs hP hD hS => ?_)
          have hP : va_P D vwCl [(mm, .inr (3, [.int 0, .int (nI d), .int (nI r), .int ld, .int pl, .ref ao, .ref al, .int li, .int tl, .int mo, .ref aw, .ref aq, .int mn])), (ao, .inl (cI, 4, .inl (upd (upd fo kv u) (nI kv).toNatClampNeg (fo kv)))), (al, .inl (cI, 31, .inl fl))] H := hP
          have hD : va_D A [(mm, .inr (3, [.int 0, .int (nI d), .int (nI r), .int ld, .int pl, .ref ao, .ref al, .int li, .int tl, .int mo, .ref aw, .ref aq, .int mn])), (ao, .inl (cI, 4, .inl (upd (upd fo kv u) (nI kv).toNatClampNeg (fo kv)))), (al, .inl (cI, 31, .inl fl))] := hD
          rw [show (nI kv).toNatClampNeg = kv from nI_clamp (by omega)] at hP hD
          rw [upd_back] at hP hD
          have hP : va_P D vwCl [(mm, .inr (3, [.int 0, .int (nI d), .int (nI r), .int ld, .int pl, .ref ao, .ref al, .int li, .int tl, .int mo, .ref aw, .ref aq, .int mn])), (ao, .inl (cI, 4, .inl fo)), (al, .inl (cI, 31, .inl fl))] H := hP
          have hD : va_D A [(mm, .inr (3, [.int 0, .int (nI d), .int (nI r), .int ld, .int pl, .ref ao, .ref al, .int li, .int tl, .int mo, .ref aw, .ref aq, .int mn])), (ao, .inl (cI, 4, .inl fo)), (al, .inl (cI, 31, .inl fl))] := hD
          refine lv_aload_n hx hb dX3_setOutrigger_71 rfl (lv_at hl 1 rfl) ?_
          refine lv_iconst (v := 3) hx hb dX3_setOutrigger_72 (by decide) ?_
          have hPc := hP.sub (ws' := [(mm, .inr (3, [.int 0, .int (nI d), .int (nI r), .int ld, .int pl, .ref ao, .ref al, .int li, .int tl, .int mo, .ref aw, .ref aq, .int mn]))]) [0] rfl
          have hDc : va_D (fun q : Nat => L0 ≤ q) [(mm, .inr (3, [.int 0, .int (nI d), .int (nI r), .int ld, .int pl, .ref ao, .ref al, .int li, .int tl, .int mo, .ref aw, .ref aq, .int mn]))] := (hD.sub (ws' := [(mm, .inr (3, [.int 0, .int (nI d), .int (nI r), .int ld, .int pl, .ref ao, .ref al, .int li, .int tl, .int mo, .ref aw, .ref aq, .int mn]))]) [0] (by decide) rfl).weaken (fun _ z9 _ h9 => hAL _ h9)
          have hKc := hK.sub (tys' := []) [] rfl
          refine c_callB (va_runV (As := [.int 3]) (rest := []) ⟨hx, hb, hml, hown, hts⟩ (q_no l D L0 mm ao al aw aq d r 0 ld pl li tl mo mn 3) (cwV 1 hts gX3_setOutrigger_X3_no rfl rfl rfl (by decide +kernel) ⟨Nat.le_of_ble_eq_true rfl, Nat.le_of_ble_eq_true rfl⟩) ⟨cP_blind, va_recv hKc hPc (ci := 3) (q0 := 0) rfl rfl, cP_of hPc hKc hDc (kE_at hE0 hAL hS)⟩ rfl rfl hl.1 rfl (lv_room (Nat.le_of_ble_eq_true rfl)) dX3_setOutrigger_73 ⟨Nat.le_of_ble_eq_true rfl, Nat.le_of_ble_eq_true rfl⟩) hS (fun z9 _ ⟨k9, e9, h9⟩ => (hD.sub (ws' := [(mm, .inr (3, [.int 0, .int (nI d), .int (nI r), .int ld, .int pl, .ref ao, .ref al, .int li, .int tl, .int mo, .ref aw, .ref aq, .int mn]))]) [0] (by decide) rfl).2 k9 (z9, e9) h9) (fun z9 ⟨k9, e9, h9⟩ => (hD.sub (ws' := [(mm, .inr (3, [.int 0, .int (nI d), .int (nI r), .int ld, .int pl, .ref ao, .ref al, .int li, .int tl, .int mo, .ref aw, .ref aq, .int mn]))]) [0] (by decide) rfl).2 k9 (z9, e9) h9) (fun H1 locs hB hz1 hk1 hS => ?_)
          obtain ⟨hP, hD⟩ := c_join (ws' := [(mm, .inr (3, [.int 3, .int (nI d), .int (nI r), .int ld, .int pl, .ref ao, .ref al, .int li, .int tl, .int mo, .ref aw, .ref aq, .int mn])), (ao, .inl (cI, 4, .inl fo)), (al, .inl (cI, 31, .inl fl))]) (wr := [(ao, .inl (cI, 4, .inl fo)), (al, .inl (cI, 31, .inl fl))]) (w1 := [(mm, .inr (3, [.int 3, .int (nI d), .int (nI r), .int ld, .int pl, .ref ao, .ref al, .int li, .int tl, .int mo, .ref aw, .ref aq, .int mn]))]) hP hD [0] [1, 2] [2, 0, 1] rfl rfl (by decide) (by decide) hk1 hB rfl rfl rfl (by decide)
          generalize H1 = H at hP hS ⊢
          show W _ _ _ _ _ _ _ _ _ _ _ _ _ _ _ (F0 m 76 ls [.int 0])
          have hK1 : kSO ld (fun k q => safS (upd fo k q) fl pl ld d r) v u = 3 := by rw [kSO, if_pos hp1, if_pos hp2, if_neg (fun z => by have z2 := z.2; rw [hvn, hs] at z2; exact absurd z2 (by decide))]
          have hKn : ¬ kSO ld (fun k q => safS (upd fo k q) fl pl ld d r) v u = 0 := by rw [hK1]; decide
          exact W.iret (v := 0) hx hb hRt (fun t ht hW => ⟨⟨by simp only [if_neg hKn], by rw [ht]; exact (by simp only [if_neg hKn]; rw [hK1]; exact hP)⟩, hS.F ht⟩) hS.2.2 dX3_setOutrigger_76
        · have hs : safS (upd fo kv u) fl pl ld d r = true := by rw [← hbv_15]; cases b_14 with | true => rfl | false => exact absurd rfl c_16
          refine lv_iload_n hx hb dX3_setOutrigger_62 rfl (lv_at hl 0 rfl) ?_
          rw [← hvn] at hP
          have hK1 : kSO ld (fun k q => safS (upd fo k q) fl pl ld d r) v u = 0 := by rw [kSO, if_pos hp1, if_pos hp2, hvn, if_pos ⟨c_13, hs⟩]
          exact W.iret (v := (fo kv)) hx hb hRt (fun t ht hW => ⟨⟨by simp only [if_pos hK1]; rw [hvn], by rw [ht]; exact (by simp only [if_pos hK1]; rw [hK1]; exact hP)⟩, hS.F ht⟩) hS.2.2 dX3_setOutrigger_63
    · have hn : ¬ (inR u 0 6) := fun hp => absurd c_12 (by rw [hbv_11]; simp [hp.1, hp.2, bI])
      refine lv_aload_n hx hb dX3_setOutrigger_28 rfl (lv_at hl 0 rfl) ?_
      refine lv_iconst (v := 2) hx hb dX3_setOutrigger_29 (by decide) ?_
      have hPc := hP.sub (ws' := [(mm, .inr (3, [.int 0, .int (nI d), .int (nI r), .int ld, .int pl, .ref ao, .ref al, .int li, .int tl, .int mo, .ref aw, .ref aq, .int mn]))]) [0] rfl
      have hDc : va_D (fun q : Nat => L0 ≤ q) [(mm, .inr (3, [.int 0, .int (nI d), .int (nI r), .int ld, .int pl, .ref ao, .ref al, .int li, .int tl, .int mo, .ref aw, .ref aq, .int mn]))] := (hD.sub (ws' := [(mm, .inr (3, [.int 0, .int (nI d), .int (nI r), .int ld, .int pl, .ref ao, .ref al, .int li, .int tl, .int mo, .ref aw, .ref aq, .int mn]))]) [0] (by decide) rfl).weaken (fun _ z9 _ h9 => hAL _ h9)
      have hKc := hK.sub (tys' := []) [] rfl
      refine c_callB (va_runV (As := [.int 2]) (rest := []) ⟨hx, hb, hml, hown, hts⟩ (q_no l D L0 mm ao al aw aq d r 0 ld pl li tl mo mn 2) (cwV 1 hts gX3_setOutrigger_X3_no rfl rfl rfl (by decide +kernel) ⟨Nat.le_of_ble_eq_true rfl, Nat.le_of_ble_eq_true rfl⟩) ⟨cP_blind, va_recv hKc hPc (ci := 3) (q0 := 0) rfl rfl, cP_of hPc hKc hDc (kE_at hE0 hAL hS)⟩ rfl rfl hl.1 rfl (lv_room (Nat.le_of_ble_eq_true rfl)) dX3_setOutrigger_30 ⟨Nat.le_of_ble_eq_true rfl, Nat.le_of_ble_eq_true rfl⟩) hS (fun z9 _ ⟨k9, e9, h9⟩ => (hD.sub (ws' := [(mm, .inr (3, [.int 0, .int (nI d), .int (nI r), .int ld, .int pl, .ref ao, .ref al, .int li, .int tl, .int mo, .ref aw, .ref aq, .int mn]))]) [0] (by decide) rfl).2 k9 (z9, e9) h9) (fun z9 ⟨k9, e9, h9⟩ => (hD.sub (ws' := [(mm, .inr (3, [.int 0, .int (nI d), .int (nI r), .int ld, .int pl, .ref ao, .ref al, .int li, .int tl, .int mo, .ref aw, .ref aq, .int mn]))]) [0] (by decide) rfl).2 k9 (z9, e9) h9) (fun H1 locs hB hz1 hk1 hS => ?_)
      obtain ⟨hP, hD⟩ := c_join (ws' := [(mm, .inr (3, [.int 2, .int (nI d), .int (nI r), .int ld, .int pl, .ref ao, .ref al, .int li, .int tl, .int mo, .ref aw, .ref aq, .int mn])), (ao, .inl (cI, 4, .inl fo)), (al, .inl (cI, 31, .inl fl))]) (wr := [(ao, .inl (cI, 4, .inl fo)), (al, .inl (cI, 31, .inl fl))]) (w1 := [(mm, .inr (3, [.int 2, .int (nI d), .int (nI r), .int ld, .int pl, .ref ao, .ref al, .int li, .int tl, .int mo, .ref aw, .ref aq, .int mn]))]) hP hD [0] [1, 2] [2, 0, 1] rfl rfl (by decide) (by decide) hk1 hB rfl rfl rfl (by decide)
      generalize H1 = H at hP hS ⊢
      show W _ _ _ _ _ _ _ _ _ _ _ _ _ _ _ (F0 m 33 ls [.int 0])
      have hK1 : kSO ld (fun k q => safS (upd fo k q) fl pl ld d r) v u = 2 := by rw [kSO, if_pos hp1, if_neg hn]
      have hKn : ¬ kSO ld (fun k q => safS (upd fo k q) fl pl ld d r) v u = 0 := by rw [hK1]; decide
      exact W.iret (v := 0) hx hb hRt (fun t ht hW => ⟨⟨by simp only [if_neg hKn], by rw [ht]; exact (by simp only [if_neg hKn]; rw [hK1]; exact hP)⟩, hS.F ht⟩) hS.2.2 dX3_setOutrigger_33
  · have hn : ¬ (inR v 0 3) := fun hp => absurd c_9 (by rw [hbv_8]; simp [hp.1, hp.2, bI])
    refine lv_aload_n hx hb dX3_setOutrigger_12 rfl (lv_at hl 0 rfl) ?_
    refine lv_iconst (v := 1) hx hb dX3_setOutrigger_13 (by decide) ?_
    have hPc := hP.sub (ws' := [(mm, .inr (3, [.int 0, .int (nI d), .int (nI r), .int ld, .int pl, .ref ao, .ref al, .int li, .int tl, .int mo, .ref aw, .ref aq, .int mn]))]) [0] rfl
    have hDc : va_D (fun q : Nat => L0 ≤ q) [(mm, .inr (3, [.int 0, .int (nI d), .int (nI r), .int ld, .int pl, .ref ao, .ref al, .int li, .int tl, .int mo, .ref aw, .ref aq, .int mn]))] := (hD.sub (ws' := [(mm, .inr (3, [.int 0, .int (nI d), .int (nI r), .int ld, .int pl, .ref ao, .ref al, .int li, .int tl, .int mo, .ref aw, .ref aq, .int mn]))]) [0] (by decide) rfl).weaken (fun _ z9 _ h9 => hAL _ h9)
    have hKc := hK.sub (tys' := []) [] rfl
    refine c_callB (va_runV (As := [.int 1]) (rest := []) ⟨hx, hb, hml, hown, hts⟩ (q_no l D L0 mm ao al aw aq d r 0 ld pl li tl mo mn 1) (cwV 1 hts gX3_setOutrigger_X3_no rfl rfl rfl (by decide +kernel) ⟨Nat.le_of_ble_eq_true rfl, Nat.le_of_ble_eq_true rfl⟩) ⟨cP_blind, va_recv hKc hPc (ci := 3) (q0 := 0) rfl rfl, cP_of hPc hKc hDc (kE_at hE0 hAL hS)⟩ rfl rfl hl.1 rfl (lv_room (Nat.le_of_ble_eq_true rfl)) dX3_setOutrigger_14 ⟨Nat.le_of_ble_eq_true rfl, Nat.le_of_ble_eq_true rfl⟩) hS (fun z9 _ ⟨k9, e9, h9⟩ => (hD.sub (ws' := [(mm, .inr (3, [.int 0, .int (nI d), .int (nI r), .int ld, .int pl, .ref ao, .ref al, .int li, .int tl, .int mo, .ref aw, .ref aq, .int mn]))]) [0] (by decide) rfl).2 k9 (z9, e9) h9) (fun z9 ⟨k9, e9, h9⟩ => (hD.sub (ws' := [(mm, .inr (3, [.int 0, .int (nI d), .int (nI r), .int ld, .int pl, .ref ao, .ref al, .int li, .int tl, .int mo, .ref aw, .ref aq, .int mn]))]) [0] (by decide) rfl).2 k9 (z9, e9) h9) (fun H1 locs hB hz1 hk1 hS => ?_)
    obtain ⟨hP, hD⟩ := c_join (ws' := [(mm, .inr (3, [.int 1, .int (nI d), .int (nI r), .int ld, .int pl, .ref ao, .ref al, .int li, .int tl, .int mo, .ref aw, .ref aq, .int mn])), (ao, .inl (cI, 4, .inl fo)), (al, .inl (cI, 31, .inl fl))]) (wr := [(ao, .inl (cI, 4, .inl fo)), (al, .inl (cI, 31, .inl fl))]) (w1 := [(mm, .inr (3, [.int 1, .int (nI d), .int (nI r), .int ld, .int pl, .ref ao, .ref al, .int li, .int tl, .int mo, .ref aw, .ref aq, .int mn]))]) hP hD [0] [1, 2] [2, 0, 1] rfl rfl (by decide) (by decide) hk1 hB rfl rfl rfl (by decide)
    generalize H1 = H at hP hS ⊢
    show W _ _ _ _ _ _ _ _ _ _ _ _ _ _ _ (F0 m 17 ls [.int 0])
    have hK1 : kSO ld (fun k q => safS (upd fo k q) fl pl ld d r) v u = 1 := by rw [kSO, if_neg hn]
    have hKn : ¬ kSO ld (fun k q => safS (upd fo k q) fl pl ld d r) v u = 0 := by rw [hK1]; decide
    exact W.iret (v := 0) hx hb hRt (fun t ht hW => ⟨⟨by simp only [if_neg hKn], by rw [ht]; exact (by simp only [if_neg hKn]; rw [hK1]; exact hP)⟩, hS.F ht⟩) hS.2.2 dX3_setOutrigger_17
set_option maxHeartbeats 4000000 in
set_option maxRecDepth 100000 in
/-- setLimit -/
theorem q_setLimit (l : Launch) (D : va_G) (L0 : Nat) (cI : ClassId) (mm ao al aw aq d r : Nat) (th ld pl li tl mo mn : Int32) (fo fl : Nat → Int32) (v u : Int32) (hd : d < 8) (hr : 3 ≤ r ∧ r ≤ 30) (hsafe : safS fo fl pl ld d r = true) : Met l yX3_setLimit wsX3_setLimit ({ frames := 2, cells := 0, slots := 0, locals := 42 }) (cP L0 D [(cI, .int)] [(mm, .inr (3, [.int th, .int (nI d), .int (nI r), .int ld, .int pl, .ref ao, .ref al, .int li, .int tl, .int mo, .ref aw, .ref aq, .int mn])), (ao, .inl (cI, 4, .inl fo)), (al, .inl (cI, 31, .inl fl))] [.ref mm, .int v, .int u]) (cB (some (.int (if kSL (fun k q => safS fo (upd fl k q) pl ld d r) v u = 0 then fl v.toNatClampNeg else 0))) (fun H => va_P D vwCl [(mm, .inr (3, [.int (kSL (fun k q => safS fo (upd fl k q) pl ld d r) v u), .int (nI d), .int (nI r), .int ld, .int pl, .ref ao, .ref al, .int li, .int tl, .int mo, .ref aw, .ref aq, .int mn])), (ao, .inl (cI, 4, .inl fo)), (al, .inl (cI, 31, .inl (if kSL (fun k q => safS fo (upd fl k q) pl ld d r) v u = 0 then upd fl v.toNatClampNeg u else fl)))] H) (cA [(mm, .inr (3, [.int th, .int (nI d), .int (nI r), .int ld, .int pl, .ref ao, .ref al, .int li, .int tl, .int mo, .ref aw, .ref aq, .int mn])), (ao, .inl (cI, 4, .inl fo)), (al, .inl (cI, 31, .inl fl))])) 0 0 (cA [(mm, .inr (3, [.int th, .int (nI d), .int (nI r), .int ld, .int pl, .ref ao, .ref al, .int li, .int tl, .int mo, .ref aw, .ref aq, .int mn])), (ao, .inl (cI, 4, .inl fo)), (al, .inl (cI, 31, .inl fl))]) := by
  refine Met.ofW (cc := cX3_setLimit) (maxL := 4) (ret := (some .int)) (by decide) rfl ?_
  intro p e s m args below meth c s₁ B hml hv
  obtain ⟨rfl, hP, hK, hD0, hE0⟩ := hv
  have hx := B.exec
  have hb := B.bytes
  have hRt := B.returns
  have hts := atoms_spec (ws := wsX3_setLimit) B.pre
  have hown : s.vm.findClass RX3 = some m.cls := findClass_of_methodNamed B.named
  have hlocks := B.notSynchronized
  have hAL : ∀ z9 : Nat, cA [(mm, .inr (3, [.int th, .int (nI d), .int (nI r), .int ld, .int pl, .ref ao, .ref al, .int li, .int tl, .int mo, .ref aw, .ref aq, .int mn])), (ao, .inl (cI, 4, .inl fo)), (al, .inl (cI, 31, .inl fl))] z9 → L0 ≤ z9 := fun z9 ⟨k9, e9, h9⟩ => hD0.2 k9 (z9, e9) h9
  have hD : va_D (cA [(mm, .inr (3, [.int th, .int (nI d), .int (nI r), .int ld, .int pl, .ref ao, .ref al, .int li, .int tl, .int mo, .ref aw, .ref aq, .int mn])), (ao, .inl (cI, 4, .inl fo)), (al, .inl (cI, 31, .inl fl))]) [(mm, .inr (3, [.int th, .int (nI d), .int (nI r), .int ld, .int pl, .ref ao, .ref al, .int li, .int tl, .int mo, .ref aw, .ref aq, .int mn])), (ao, .inl (cI, 4, .inl fo)), (al, .inl (cI, 31, .inl fl))] := ⟨hD0.1, fun k9 z9 h9 => cA_of h9⟩
  generalize hAe : cA [(mm, .inr (3, [.int th, .int (nI d), .int (nI r), .int ld, .int pl, .ref ao, .ref al, .int li, .int tl, .int mo, .ref aw, .ref aq, .int mn])), (ao, .inl (cI, 4, .inl fo)), (al, .inl (cI, 31, .inl fl))] = A at hD hAL ⊢
  have hS : va_S A s.heap s.heap [] := va_S.rf
  have hiX3 : ∀ w ∈ u_ws RX3 TX3 13, w ∈ wsX3_setLimit := by decide +kernel
  have hl := lv_entry ([.ref mm, .int v, .int u]) (n := 4) (Nat.le_of_ble_eq_true rfl)
  rw [lg_entry_eq]
  generalize (lg_sl ([.ref mm, .int v, .int u]) ++ List.replicate (4 - (lg_sl ([.ref mm, .int v, .int u])).length) Slot.unset).toArray = ls at hl ⊢
  have hl : lv_has ls 4 [(0, .ref mm), (1, .int v), (2, .int u)] := hl
  refine lv_aload_n hx hb dX3_setLimit_0 rfl (lv_at hl 0 rfl) ?_
  refine lv_iconst (v := 0) hx hb dX3_setLimit_1 (by decide) ?_
  refine va_put (D := D) (ci := 3) (v := .int 0) (ty := .int) (C := RX3) (T := TX3) (N := 13) hx hb hts hiX3 tyX3 tyX3_ok nmX3 hown hK hP hD hS 0 rfl rfl 0 (by decide) (hts (.fieldLink RX3 26 "CraneReachModel" "thrown" "I") (by decide +kernel)) (fun _ h9 => h9) rfl (by decide +kernel) rfl rfl (Nat.le_of_ble_eq_true rfl) dX3_setLimit_2 (fun H locs hP hD hS => ?_)
  have hP : va_P D vwCl [(mm, .inr (3, [.int 0, .int (nI d), .int (nI r), .int ld, .int pl, .ref ao, .ref al, .int li, .int tl, .int mo, .ref aw, .ref aq, .int mn])), (ao, .inl (cI, 4, .inl fo)), (al, .inl (cI, 31, .inl fl))] H := hP
  have hD : va_D A [(mm, .inr (3, [.int 0, .int (nI d), .int (nI r), .int ld, .int pl, .ref ao, .ref al, .int li, .int tl, .int mo, .ref aw, .ref aq, .int mn])), (ao, .inl (cI, 4, .inl fo)), (al, .inl (cI, 31, .inl fl))] := hD
  refine lv_iload_n hx hb dX3_setLimit_5 rfl (lv_at hl 1 rfl) ?_
  have hPc := hP.sub (ws' := []) [] rfl
  have hDc : va_D (fun q : Nat => L0 ≤ q) [] := (hD.sub (ws' := []) [] (by decide) rfl).weaken (fun _ z9 _ h9 => hAL _ h9)
  have hKc := hK.sub (tys' := []) [] rfl
  refine c_callR (va_runS (As := [.int v]) (rest := []) ⟨hx, hb, hml, hown, hts⟩ (q_isReach l D L0 v) (va_cwS 1 hts gX3_setLimit_X3_isReach rfl rfl rfl (by decide +kernel) ⟨Nat.le_of_ble_eq_true rfl, Nat.le_of_ble_eq_true rfl⟩) ⟨cP_blind, cP_of hPc hKc hDc (kE_at hE0 hAL hS)⟩ rfl rfl hl.1 rfl (lv_room (Nat.le_of_ble_eq_true rfl)) dX3_setLimit_6 ⟨Nat.le_of_ble_eq_true rfl, Nat.le_of_ble_eq_true rfl⟩) ?_
  show W _ _ _ _ _ _ _ _ _ _ _ _ _ _ _ (F0 m 9 ls [.int (bI (decide (3 ≤ v) && decide (v ≤ 30)))])
  obtain ⟨b_17, hbv_18⟩ : ∃ z9 : Bool, z9 = (decide (3 ≤ v) && decide (v ≤ 30)) := ⟨_, rfl⟩
  refine c_top (show (bI (decide (3 ≤ v) && decide (v ≤ 30))) = bI b_17 from by rw [hbv_18]) ?_
  refine lv_if_eq (tgt := 19) hx hb dX3_setLimit_9 (by decide) (fun c_19 => ?_) (fun c_19 => ?_)
  · have hn : ¬ (inR v 3 30) := fun hp => absurd c_19 (by rw [hbv_18]; simp [hp.1, hp.2, bI])
    refine lv_aload_n hx hb dX3_setLimit_19 rfl (lv_at hl 0 rfl) ?_
    refine lv_iconst (v := 1) hx hb dX3_setLimit_20 (by decide) ?_
    have hPc := hP.sub (ws' := [(mm, .inr (3, [.int 0, .int (nI d), .int (nI r), .int ld, .int pl, .ref ao, .ref al, .int li, .int tl, .int mo, .ref aw, .ref aq, .int mn]))]) [0] rfl
    have hDc : va_D (fun q : Nat => L0 ≤ q) [(mm, .inr (3, [.int 0, .int (nI d), .int (nI r), .int ld, .int pl, .ref ao, .ref al, .int li, .int tl, .int mo, .ref aw, .ref aq, .int mn]))] := (hD.sub (ws' := [(mm, .inr (3, [.int 0, .int (nI d), .int (nI r), .int ld, .int pl, .ref ao, .ref al, .int li, .int tl, .int mo, .ref aw, .ref aq, .int mn]))]) [0] (by decide) rfl).weaken (fun _ z9 _ h9 => hAL _ h9)
    have hKc := hK.sub (tys' := []) [] rfl
    refine c_callB (va_runV (As := [.int 1]) (rest := []) ⟨hx, hb, hml, hown, hts⟩ (q_no l D L0 mm ao al aw aq d r 0 ld pl li tl mo mn 1) (cwV 1 hts gX3_setLimit_X3_no rfl rfl rfl (by decide +kernel) ⟨Nat.le_of_ble_eq_true rfl, Nat.le_of_ble_eq_true rfl⟩) ⟨cP_blind, va_recv hKc hPc (ci := 3) (q0 := 0) rfl rfl, cP_of hPc hKc hDc (kE_at hE0 hAL hS)⟩ rfl rfl hl.1 rfl (lv_room (Nat.le_of_ble_eq_true rfl)) dX3_setLimit_21 ⟨Nat.le_of_ble_eq_true rfl, Nat.le_of_ble_eq_true rfl⟩) hS (fun z9 _ ⟨k9, e9, h9⟩ => (hD.sub (ws' := [(mm, .inr (3, [.int 0, .int (nI d), .int (nI r), .int ld, .int pl, .ref ao, .ref al, .int li, .int tl, .int mo, .ref aw, .ref aq, .int mn]))]) [0] (by decide) rfl).2 k9 (z9, e9) h9) (fun z9 ⟨k9, e9, h9⟩ => (hD.sub (ws' := [(mm, .inr (3, [.int 0, .int (nI d), .int (nI r), .int ld, .int pl, .ref ao, .ref al, .int li, .int tl, .int mo, .ref aw, .ref aq, .int mn]))]) [0] (by decide) rfl).2 k9 (z9, e9) h9) (fun H1 locs hB hz1 hk1 hS => ?_)
    obtain ⟨hP, hD⟩ := c_join (ws' := [(mm, .inr (3, [.int 1, .int (nI d), .int (nI r), .int ld, .int pl, .ref ao, .ref al, .int li, .int tl, .int mo, .ref aw, .ref aq, .int mn])), (ao, .inl (cI, 4, .inl fo)), (al, .inl (cI, 31, .inl fl))]) (wr := [(ao, .inl (cI, 4, .inl fo)), (al, .inl (cI, 31, .inl fl))]) (w1 := [(mm, .inr (3, [.int 1, .int (nI d), .int (nI r), .int ld, .int pl, .ref ao, .ref al, .int li, .int tl, .int mo, .ref aw, .ref aq, .int mn]))]) hP hD [0] [1, 2] [2, 0, 1] rfl rfl (by decide) (by decide) hk1 hB rfl rfl rfl (by decide)
    generalize H1 = H at hP hS ⊢
    show W _ _ _ _ _ _ _ _ _ _ _ _ _ _ _ (F0 m 24 ls [.int 0])
    have hK1 : kSL (fun k q => safS fo (upd fl k q) pl ld d r) v u = 1 := by rw [kSL, if_neg (fun z => hn z.1)]
    have hKn : ¬ kSL (fun k q => safS fo (upd fl k q) pl ld d r) v u = 0 := by rw [hK1]; decide
    exact W.iret (v := 0) hx hb hRt (fun t ht hW => ⟨⟨by simp only [if_neg hKn], by rw [ht]; exact (by simp only [if_neg hKn]; rw [hK1]; exact hP)⟩, hS.F ht⟩) hS.2.2 dX3_setLimit_24
  · have hp1 : inR v 3 30 := by cases b_17 with | true => simpa using hbv_18.symm | false => exact absurd rfl c_19
    refine lv_iload_n hx hb dX3_setLimit_12 rfl (lv_at hl 2 rfl) ?_
    have hPc := hP.sub (ws' := []) [] rfl
    have hDc : va_D (fun q : Nat => L0 ≤ q) [] := (hD.sub (ws' := []) [] (by decide) rfl).weaken (fun _ z9 _ h9 => hAL _ h9)
    have hKc := hK.sub (tys' := []) [] rfl
    refine c_callR (va_runS (As := [.int u]) (rest := []) ⟨hx, hb, hml, hown, hts⟩ (q_isLoad l D L0 u) (va_cwS 1 hts gX3_setLimit_X3_isLoad rfl rfl rfl (by decide +kernel) ⟨Nat.le_of_ble_eq_true rfl, Nat.le_of_ble_eq_true rfl⟩) ⟨cP_blind, cP_of hPc hKc hDc (kE_at hE0 hAL hS)⟩ rfl rfl hl.1 rfl (lv_room (Nat.le_of_ble_eq_true rfl)) dX3_setLimit_13 ⟨Nat.le_of_ble_eq_true rfl, Nat.le_of_ble_eq_true rfl⟩) ?_
    show W _ _ _ _ _ _ _ _ _ _ _ _ _ _ _ (F0 m 16 ls [.int (bI (decide (0 ≤ u) && decide (u ≤ 60)))])
    obtain ⟨b_20, hbv_21⟩ : ∃ z9 : Bool, z9 = (decide (0 ≤ u) && decide (u ≤ 60)) := ⟨_, rfl⟩
    refine c_top (show (bI (decide (0 ≤ u) && decide (u ≤ 60))) = bI b_20 from by rw [hbv_21]) ?_
    refine lv_if_ne (tgt := 25) hx hb dX3_setLimit_16 (by decide) (fun c_22 => ?_) (fun c_22 => ?_)
    · have hp2 : inR u 0 60 := by cases b_20 with | true => simpa using hbv_21.symm | false => exact absurd rfl c_22
      obtain ⟨kv, hkv, hv⟩ := inR_n3 (n := 30) (by decide) hp1
      have hvn : v.toNatClampNeg = kv := by rw [hv, nI_clamp (by omega)]
      have hl : lv_has ls 4 [(0, .ref mm), (1, .int (nI kv)), (2, .int u)] := (show v = nI kv from hv) ▸ hl
      refine lv_iload_n hx hb dX3_setLimit_25 rfl (lv_at hl 1 rfl) ?_
      refine lv_aload_n hx hb dX3_setLimit_26 rfl (lv_at hl 0 rfl) ?_
      refine va_get (D := D) (ci := 3) (v := .int (nI r)) (C := RX3) (T := TX3) (N := 13) hx hb hts hiX3 hown hK hP 0 rfl rfl 2 (by decide) (hts (.fieldLink RX3 9 "CraneReachModel" "reach" "I") (by decide +kernel)) (fun _ h9 => h9) rfl dX3_setLimit_27 ?_
      refine lv_icmp_ne (tgt := 47) hx hb dX3_setLimit_30 (by decide) (fun c_23 => ?_) (fun c_23 => ?_)
      · have hsf : safS fo (upd fl kv u) pl ld d r = true := safS_u1 hsafe (fun e => c_23 (by rw [e]))
        refine lv_aload_n hx hb dX3_setLimit_47 rfl (lv_at hl 0 rfl) ?_
        refine va_get (D := D) (ci := 3) (v := .ref al) (C := RX3) (T := TX3) (N := 13) hx hb hts hiX3 hown hK hP 0 rfl rfl 6 (by decide) (hts (.fieldLink RX3 17 "CraneReachModel" "limit" "[I") (by decide +kernel)) (fun _ h9 => h9) rfl dX3_setLimit_48 ?_
        refine lv_iload_n hx hb dX3_setLimit_51 rfl (lv_at hl 1 rfl) ?_
        refine va_iald hx hb hK hP 2 0 rfl rfl (vp_in_nI (by omega) (by decide)) dX3_setLimit_52 ?_
        refine c_top (show (fl (nI kv).toNatClampNeg) = fl kv from by rw [nI_clamp (by omega)]) ?_
        refine lv_istore_n (lv' := [(3, .int (fl kv)), (0, .ref mm), (1, .int (nI kv)), (2, .int u)]) hx hb dX3_setLimit_53 rfl hl (by decide) rfl (fun ls hl => ?_)
        refine lv_aload_n hx hb dX3_setLimit_54 rfl (lv_at hl 1 rfl) ?_
        refine va_get (D := D) (ci := 3) (v := .ref al) (C := RX3) (T := TX3) (N := 13) hx hb hts hiX3 hown hK hP 0 rfl rfl 6 (by decide) (hts (.fieldLink RX3 17 "CraneReachModel" "limit" "[I") (by decide +kernel)) (fun _ h9 => h9) rfl dX3_setLimit_55 ?_
        refine lv_iload_n hx hb dX3_setLimit_58 rfl (lv_at hl 2 rfl) ?_
        refine lv_iload_n hx hb dX3_setLimit_59 rfl (lv_at hl 3 rfl) ?_
        refine va_iast hx hb hK hP hD hS 2 0 rfl rfl (vp_in_nI (by omega) (by decide)) dX3_setLimit_60 (fun H locs hP hD hS => ?_)
        have hP : va_P D vwCl [(mm, .inr (3, [.int 0, .int (nI d), .int (nI r), .int ld, .int pl, .ref ao, .ref al, .int li, .int tl, .int mo, .ref aw, .ref aq, .int mn])), (ao, .inl (cI, 4, .inl fo)), (al, .inl (cI, 31, .inl (upd fl (nI kv).toNatClampNeg u)))] H := hP
        have hD : va_D A [(mm, .inr (3, [.int 0, .int (nI d), .int (nI r), .int ld, .int pl, .ref ao, .ref al, .int li, .int tl, .int mo, .ref aw, .ref aq, .int mn])), (ao, .inl (cI, 4, .inl fo)), (al, .inl (cI, 31, .inl (upd fl (nI kv).toNatClampNeg u)))] := hD
        rw [show (nI kv).toNatClampNeg = kv from nI_clamp (by omega)] at hP hD
        have hP : va_P D vwCl [(mm, .inr (3, [.int 0, .int (nI d), .int (nI r), .int ld, .int pl, .ref ao, .ref al, .int li, .int tl, .int mo, .ref aw, .ref aq, .int mn])), (ao, .inl (cI, 4, .inl fo)), (al, .inl (cI, 31, .inl (upd fl kv u)))] H := hP
        have hD : va_D A [(mm, .inr (3, [.int 0, .int (nI d), .int (nI r), .int ld, .int pl, .ref ao, .ref al, .int li, .int tl, .int mo, .ref aw, .ref aq, .int mn])), (ao, .inl (cI, 4, .inl fo)), (al, .inl (cI, 31, .inl (upd fl kv u)))] := hD
        refine lv_iload_n hx hb dX3_setLimit_61 rfl (lv_at hl 0 rfl) ?_
        rw [← hvn] at hP
        have hK1 : kSL (fun k q => safS fo (upd fl k q) pl ld d r) v u = 0 := by rw [kSL, if_pos ⟨hp1, hp2⟩, hvn, if_pos hsf]
        exact W.iret (v := (fl kv)) hx hb hRt (fun t ht hW => ⟨⟨by simp only [if_pos hK1]; rw [hvn], by rw [ht]; exact (by simp only [if_pos hK1]; rw [hK1]; exact hP)⟩, hS.F ht⟩) hS.2.2 dX3_setLimit_62
      · have hkr : kv = r := (nI_eq (by omega) (by omega)).mp c_23
        refine lv_aload_n hx hb dX3_setLimit_33 rfl (lv_at hl 0 rfl) ?_
        refine va_get (D := D) (ci := 3) (v := .int ld) (C := RX3) (T := TX3) (N := 13) hx hb hts hiX3 hown hK hP 0 rfl rfl 3 (by decide) (hts (.fieldLink RX3 53 "CraneReachModel" "load" "I") (by decide +kernel)) (fun _ h9 => h9) rfl dX3_setLimit_34 ?_
        refine lv_iload_n hx hb dX3_setLimit_37 rfl (lv_at hl 2 rfl) ?_
        refine lv_icmp_le (tgt := 47) hx hb dX3_setLimit_38 (by decide) (fun c_24 => ?_) (fun c_24 => ?_)
        · have hsf : safS fo (upd fl kv u) pl ld d r = true := safS_u2 hsafe c_24
          refine lv_aload_n hx hb dX3_setLimit_47 rfl (lv_at hl 0 rfl) ?_
          refine va_get (D := D) (ci := 3) (v := .ref al) (C := RX3) (T := TX3) (N := 13) hx hb hts hiX3 hown hK hP 0 rfl rfl 6 (by decide) (hts (.fieldLink RX3 17 "CraneReachModel" "limit" "[I") (by decide +kernel)) (fun _ h9 => h9) rfl dX3_setLimit_48 ?_
          refine lv_iload_n hx hb dX3_setLimit_51 rfl (lv_at hl 1 rfl) ?_
          refine va_iald hx hb hK hP 2 0 rfl rfl (vp_in_nI (by omega) (by decide)) dX3_setLimit_52 ?_
          refine c_top (show (fl (nI kv).toNatClampNeg) = fl kv from by rw [nI_clamp (by omega)]) ?_
          refine lv_istore_n (lv' := [(3, .int (fl kv)), (0, .ref mm), (1, .int (nI kv)), (2, .int u)]) hx hb dX3_setLimit_53 rfl hl (by decide) rfl (fun ls hl => ?_)
          refine lv_aload_n hx hb dX3_setLimit_54 rfl (lv_at hl 1 rfl) ?_
          refine va_get (D := D) (ci := 3) (v := .ref al) (C := RX3) (T := TX3) (N := 13) hx hb hts hiX3 hown hK hP 0 rfl rfl 6 (by decide) (hts (.fieldLink RX3 17 "CraneReachModel" "limit" "[I") (by decide +kernel)) (fun _ h9 => h9) rfl dX3_setLimit_55 ?_
          refine lv_iload_n hx hb dX3_setLimit_58 rfl (lv_at hl 2 rfl) ?_
          refine lv_iload_n hx hb dX3_setLimit_59 rfl (lv_at hl 3 rfl) ?_
          refine va_iast hx hb hK hP hD hS 2 0 rfl rfl (vp_in_nI (by omega) (by decide)) dX3_setLimit_60 (fun H locs hP hD hS => ?_)
          have hP : va_P D vwCl [(mm, .inr (3, [.int 0, .int (nI d), .int (nI r), .int ld, .int pl, .ref ao, .ref al, .int li, .int tl, .int mo, .ref aw, .ref aq, .int mn])), (ao, .inl (cI, 4, .inl fo)), (al, .inl (cI, 31, .inl (upd fl (nI kv).toNatClampNeg u)))] H := hP
          have hD : va_D A [(mm, .inr (3, [.int 0, .int (nI d), .int (nI r), .int ld, .int pl, .ref ao, .ref al, .int li, .int tl, .int mo, .ref aw, .ref aq, .int mn])), (ao, .inl (cI, 4, .inl fo)), (al, .inl (cI, 31, .inl (upd fl (nI kv).toNatClampNeg u)))] := hD
          rw [show (nI kv).toNatClampNeg = kv from nI_clamp (by omega)] at hP hD
          have hP : va_P D vwCl [(mm, .inr (3, [.int 0, .int (nI d), .int (nI r), .int ld, .int pl, .ref ao, .ref al, .int li, .int tl, .int mo, .ref aw, .ref aq, .int mn])), (ao, .inl (cI, 4, .inl fo)), (al, .inl (cI, 31, .inl (upd fl kv u)))] H := hP
          have hD : va_D A [(mm, .inr (3, [.int 0, .int (nI d), .int (nI r), .int ld, .int pl, .ref ao, .ref al, .int li, .int tl, .int mo, .ref aw, .ref aq, .int mn])), (ao, .inl (cI, 4, .inl fo)), (al, .inl (cI, 31, .inl (upd fl kv u)))] := hD
          refine lv_iload_n hx hb dX3_setLimit_61 rfl (lv_at hl 0 rfl) ?_
          rw [← hvn] at hP
          have hK1 : kSL (fun k q => safS fo (upd fl k q) pl ld d r) v u = 0 := by rw [kSL, if_pos ⟨hp1, hp2⟩, hvn, if_pos hsf]
          exact W.iret (v := (fl kv)) hx hb hRt (fun t ht hW => ⟨⟨by simp only [if_pos hK1]; rw [hvn], by rw [ht]; exact (by simp only [if_pos hK1]; rw [hK1]; exact hP)⟩, hS.F ht⟩) hS.2.2 dX3_setLimit_62
        · refine lv_aload_n hx hb dX3_setLimit_41 rfl (lv_at hl 0 rfl) ?_
          refine lv_iconst (v := 2) hx hb dX3_setLimit_42 (by decide) ?_
          have hPc := hP.sub (ws' := [(mm, .inr (3, [.int 0, .int (nI d), .int (nI r), .int ld, .int pl, .ref ao, .ref al, .int li, .int tl, .int mo, .ref aw, .ref aq, .int mn]))]) [0] rfl
          have hDc : va_D (fun q : Nat => L0 ≤ q) [(mm, .inr (3, [.int 0, .int (nI d), .int (nI r), .int ld, .int pl, .ref ao, .ref al, .int li, .int tl, .int mo, .ref aw, .ref aq, .int mn]))] := (hD.sub (ws' := [(mm, .inr (3, [.int 0, .int (nI d), .int (nI r), .int ld, .int pl, .ref ao, .ref al, .int li, .int tl, .int mo, .ref aw, .ref aq, .int mn]))]) [0] (by decide) rfl).weaken (fun _ z9 _ h9 => hAL _ h9)
          have hKc := hK.sub (tys' := []) [] rfl
          refine c_callB (va_runV (As := [.int 2]) (rest := []) ⟨hx, hb, hml, hown, hts⟩ (q_no l D L0 mm ao al aw aq d r 0 ld pl li tl mo mn 2) (cwV 1 hts gX3_setLimit_X3_no rfl rfl rfl (by decide +kernel) ⟨Nat.le_of_ble_eq_true rfl, Nat.le_of_ble_eq_true rfl⟩) ⟨cP_blind, va_recv hKc hPc (ci := 3) (q0 := 0) rfl rfl, cP_of hPc hKc hDc (kE_at hE0 hAL hS)⟩ rfl rfl hl.1 rfl (lv_room (Nat.le_of_ble_eq_true rfl)) dX3_setLimit_43 ⟨Nat.le_of_ble_eq_true rfl, Nat.le_of_ble_eq_true rfl⟩) hS (fun z9 _ ⟨k9, e9, h9⟩ => (hD.sub (ws' := [(mm, .inr (3, [.int 0, .int (nI d), .int (nI r), .int ld, .int pl, .ref ao, .ref al, .int li, .int tl, .int mo, .ref aw, .ref aq, .int mn]))]) [0] (by decide) rfl).2 k9 (z9, e9) h9) (fun z9 ⟨k9, e9, h9⟩ => (hD.sub (ws' := [(mm, .inr (3, [.int 0, .int (nI d), .int (nI r), .int ld, .int pl, .ref ao, .ref al, .int li, .int tl, .int mo, .ref aw, .ref aq, .int mn]))]) [0] (by decide) rfl).2 k9 (z9, e9) h9) (fun H1 locs hB hz1 hk1 hS => ?_)
          obtain ⟨hP, hD⟩ := c_join (ws' := [(mm, .inr (3, [.int 2, .int (nI d), .int (nI r), .int ld, .int pl, .ref ao, .ref al, .int li, .int tl, .int mo, .ref aw, .ref aq, .int mn])), (ao, .inl (cI, 4, .inl fo)), (al, .inl (cI, 31, .inl fl))]) (wr := [(ao, .inl (cI, 4, .inl fo)), (al, .inl (cI, 31, .inl fl))]) (w1 := [(mm, .inr (3, [.int 2, .int (nI d), .int (nI r), .int ld, .int pl, .ref ao, .ref al, .int li, .int tl, .int mo, .ref aw, .ref aq, .int mn]))]) hP hD [0] [1, 2] [2, 0, 1] rfl rfl (by decide) (by decide) hk1 hB rfl rfl rfl (by decide)
          generalize H1 = H at hP hS ⊢
          show W _ _ _ _ _ _ _ _ _ _ _ _ _ _ _ (F0 m 46 ls [.int 0])
          have hK1 : kSL (fun k q => safS fo (upd fl k q) pl ld d r) v u = 2 := by rw [kSL, if_pos ⟨hp1, hp2⟩, hvn, if_neg (safS_u3 hkr c_24)]
          have hKn : ¬ kSL (fun k q => safS fo (upd fl k q) pl ld d r) v u = 0 := by rw [hK1]; decide
          exact W.iret (v := 0) hx hb hRt (fun t ht hW => ⟨⟨by simp only [if_neg hKn], by rw [ht]; exact (by simp only [if_neg hKn]; rw [hK1]; exact hP)⟩, hS.F ht⟩) hS.2.2 dX3_setLimit_46
    · have hn : ¬ (inR u 0 60) := fun hp => absurd c_22 (by rw [hbv_21]; simp [hp.1, hp.2, bI])
      refine lv_aload_n hx hb dX3_setLimit_19 rfl (lv_at hl 0 rfl) ?_
      refine lv_iconst (v := 1) hx hb dX3_setLimit_20 (by decide) ?_
      have hPc := hP.sub (ws' := [(mm, .inr (3, [.int 0, .int (nI d), .int (nI r), .int ld, .int pl, .ref ao, .ref al, .int li, .int tl, .int mo, .ref aw, .ref aq, .int mn]))]) [0] rfl
      have hDc : va_D (fun q : Nat => L0 ≤ q) [(mm, .inr (3, [.int 0, .int (nI d), .int (nI r), .int ld, .int pl, .ref ao, .ref al, .int li, .int tl, .int mo, .ref aw, .ref aq, .int mn]))] := (hD.sub (ws' := [(mm, .inr (3, [.int 0, .int (nI d), .int (nI r), .int ld, .int pl, .ref ao, .ref al, .int li, .int tl, .int mo, .ref aw, .ref aq, .int mn]))]) [0] (by decide) rfl).weaken (fun _ z9 _ h9 => hAL _ h9)
      have hKc := hK.sub (tys' := []) [] rfl
      refine c_callB (va_runV (As := [.int 1]) (rest := []) ⟨hx, hb, hml, hown, hts⟩ (q_no l D L0 mm ao al aw aq d r 0 ld pl li tl mo mn 1) (cwV 1 hts gX3_setLimit_X3_no rfl rfl rfl (by decide +kernel) ⟨Nat.le_of_ble_eq_true rfl, Nat.le_of_ble_eq_true rfl⟩) ⟨cP_blind, va_recv hKc hPc (ci := 3) (q0 := 0) rfl rfl, cP_of hPc hKc hDc (kE_at hE0 hAL hS)⟩ rfl rfl hl.1 rfl (lv_room (Nat.le_of_ble_eq_true rfl)) dX3_setLimit_21 ⟨Nat.le_of_ble_eq_true rfl, Nat.le_of_ble_eq_true rfl⟩) hS (fun z9 _ ⟨k9, e9, h9⟩ => (hD.sub (ws' := [(mm, .inr (3, [.int 0, .int (nI d), .int (nI r), .int ld, .int pl, .ref ao, .ref al, .int li, .int tl, .int mo, .ref aw, .ref aq, .int mn]))]) [0] (by decide) rfl).2 k9 (z9, e9) h9) (fun z9 ⟨k9, e9, h9⟩ => (hD.sub (ws' := [(mm, .inr (3, [.int 0, .int (nI d), .int (nI r), .int ld, .int pl, .ref ao, .ref al, .int li, .int tl, .int mo, .ref aw, .ref aq, .int mn]))]) [0] (by decide) rfl).2 k9 (z9, e9) h9) (fun H1 locs hB hz1 hk1 hS => ?_)
      obtain ⟨hP, hD⟩ := c_join (ws' := [(mm, .inr (3, [.int 1, .int (nI d), .int (nI r), .int ld, .int pl, .ref ao, .ref al, .int li, .int tl, .int mo, .ref aw, .ref aq, .int mn])), (ao, .inl (cI, 4, .inl fo)), (al, .inl (cI, 31, .inl fl))]) (wr := [(ao, .inl (cI, 4, .inl fo)), (al, .inl (cI, 31, .inl fl))]) (w1 := [(mm, .inr (3, [.int 1, .int (nI d), .int (nI r), .int ld, .int pl, .ref ao, .ref al, .int li, .int tl, .int mo, .ref aw, .ref aq, .int mn]))]) hP hD [0] [1, 2] [2, 0, 1] rfl rfl (by decide) (by decide) hk1 hB rfl rfl rfl (by decide)
      generalize H1 = H at hP hS ⊢
      show W _ _ _ _ _ _ _ _ _ _ _ _ _ _ _ (F0 m 24 ls [.int 0])
      have hK1 : kSL (fun k q => safS fo (upd fl k q) pl ld d r) v u = 1 := by rw [kSL, if_neg (fun z => hn z.2)]
      have hKn : ¬ kSL (fun k q => safS fo (upd fl k q) pl ld d r) v u = 0 := by rw [hK1]; decide
      exact W.iret (v := 0) hx hb hRt (fun t ht hW => ⟨⟨by simp only [if_neg hKn], by rw [ht]; exact (by simp only [if_neg hKn]; rw [hK1]; exact hP)⟩, hS.F ht⟩) hS.2.2 dX3_setLimit_24
set_option maxHeartbeats 4000000 in
set_option maxRecDepth 100000 in
/-- lift -/
theorem q_lift (l : Launch) (D : va_G) (L0 : Nat) (cI : ClassId) (mm ao al aw aq d r : Nat) (th ld pl li tl mo mn : Int32) (fo fl : Nat → Int32) (v : Int32) (hd : d < 8) (hr : 3 ≤ r ∧ r ≤ 30) : Met l yX3_lift wsX3_lift ({ frames := 3, cells := 0, slots := 0, locals := 81 }) (cP L0 D [(cI, .int)] [(mm, .inr (3, [.int th, .int (nI d), .int (nI r), .int ld, .int pl, .ref ao, .ref al, .int li, .int tl, .int mo, .ref aw, .ref aq, .int mn])), (ao, .inl (cI, 4, .inl fo)), (al, .inl (cI, 31, .inl fl))] [.ref mm, .int v]) (cB (some (.int (if kLi ld (fun q => safS fo fl pl q d r) v = 0 then li + 1 else 0))) (fun H => va_P D vwCl [(mm, .inr (3, [.int (kLi ld (fun q => safS fo fl pl q d r) v), .int (nI d), .int (nI r), .int (if kLi ld (fun q => safS fo fl pl q d r) v = 0 then v else ld), .int pl, .ref ao, .ref al, .int (if kLi ld (fun q => safS fo fl pl q d r) v = 0 then li + 1 else li), .int (if kLi ld (fun q => safS fo fl pl q d r) v = 0 then tl + v else tl), .int mo, .ref aw, .ref aq, .int mn])), (ao, .inl (cI, 4, .inl fo)), (al, .inl (cI, 31, .inl fl))] H) (cA [(mm, .inr (3, [.int th, .int (nI d), .int (nI r), .int ld, .int pl, .ref ao, .ref al, .int li, .int tl, .int mo, .ref aw, .ref aq, .int mn])), (ao, .inl (cI, 4, .inl fo)), (al, .inl (cI, 31, .inl fl))])) 0 0 (cA [(mm, .inr (3, [.int th, .int (nI d), .int (nI r), .int ld, .int pl, .ref ao, .ref al, .int li, .int tl, .int mo, .ref aw, .ref aq, .int mn])), (ao, .inl (cI, 4, .inl fo)), (al, .inl (cI, 31, .inl fl))]) := by
  refine Met.ofW (cc := cX3_lift) (maxL := 2) (ret := (some .int)) (by decide) rfl ?_
  intro p e s m args below meth c s₁ B hml hv
  obtain ⟨rfl, hP, hK, hD0, hE0⟩ := hv
  have hx := B.exec
  have hb := B.bytes
  have hRt := B.returns
  have hts := atoms_spec (ws := wsX3_lift) B.pre
  have hown : s.vm.findClass RX3 = some m.cls := findClass_of_methodNamed B.named
  have hlocks := B.notSynchronized
  have hAL : ∀ z9 : Nat, cA [(mm, .inr (3, [.int th, .int (nI d), .int (nI r), .int ld, .int pl, .ref ao, .ref al, .int li, .int tl, .int mo, .ref aw, .ref aq, .int mn])), (ao, .inl (cI, 4, .inl fo)), (al, .inl (cI, 31, .inl fl))] z9 → L0 ≤ z9 := fun z9 ⟨k9, e9, h9⟩ => hD0.2 k9 (z9, e9) h9
  have hD : va_D (cA [(mm, .inr (3, [.int th, .int (nI d), .int (nI r), .int ld, .int pl, .ref ao, .ref al, .int li, .int tl, .int mo, .ref aw, .ref aq, .int mn])), (ao, .inl (cI, 4, .inl fo)), (al, .inl (cI, 31, .inl fl))]) [(mm, .inr (3, [.int th, .int (nI d), .int (nI r), .int ld, .int pl, .ref ao, .ref al, .int li, .int tl, .int mo, .ref aw, .ref aq, .int mn])), (ao, .inl (cI, 4, .inl fo)), (al, .inl (cI, 31, .inl fl))] := ⟨hD0.1, fun k9 z9 h9 => cA_of h9⟩
  generalize hAe : cA [(mm, .inr (3, [.int th, .int (nI d), .int (nI r), .int ld, .int pl, .ref ao, .ref al, .int li, .int tl, .int mo, .ref aw, .ref aq, .int mn])), (ao, .inl (cI, 4, .inl fo)), (al, .inl (cI, 31, .inl fl))] = A at hD hAL ⊢
  have hS : va_S A s.heap s.heap [] := va_S.rf
  have hiX3 : ∀ w ∈ u_ws RX3 TX3 13, w ∈ wsX3_lift := by decide +kernel
  have hl := lv_entry ([.ref mm, .int v]) (n := 2) (Nat.le_of_ble_eq_true rfl)
  rw [lg_entry_eq]
  generalize (lg_sl ([.ref mm, .int v]) ++ List.replicate (2 - (lg_sl ([.ref mm, .int v])).length) Slot.unset).toArray = ls at hl ⊢
  have hl : lv_has ls 2 [(0, .ref mm), (1, .int v)] := hl
  refine lv_aload_n hx hb dX3_lift_0 rfl (lv_at hl 0 rfl) ?_
  refine lv_iconst (v := 0) hx hb dX3_lift_1 (by decide) ?_
  refine va_put (D := D) (ci := 3) (v := .int 0) (ty := .int) (C := RX3) (T := TX3) (N := 13) hx hb hts hiX3 tyX3 tyX3_ok nmX3 hown hK hP hD hS 0 rfl rfl 0 (by decide) (hts (.fieldLink RX3 26 "CraneReachModel" "thrown" "I") (by decide +kernel)) (fun _ h9 => h9) rfl (by decide +kernel) rfl rfl (Nat.le_of_ble_eq_true rfl) dX3_lift_2 (fun H locs hP hD hS => ?_)
  have hP : va_P D vwCl [(mm, .inr (3, [.int 0, .int (nI d), .int (nI r), .int ld, .int pl, .ref ao, .ref al, .int li, .int tl, .int mo, .ref aw, .ref aq, .int mn])), (ao, .inl (cI, 4, .inl fo)), (al, .inl (cI, 31, .inl fl))] H := hP
  have hD : va_D A [(mm, .inr (3, [.int 0, .int (nI d), .int (nI r), .int ld, .int pl, .ref ao, .ref al, .int li, .int tl, .int mo, .ref aw, .ref aq, .int mn])), (ao, .inl (cI, 4, .inl fo)), (al, .inl (cI, 31, .inl fl))] := hD
  refine lv_iload_n hx hb dX3_lift_5 rfl (lv_at hl 1 rfl) ?_
  refine lv_iconst (v := 1) hx hb dX3_lift_6 (by decide) ?_
  refine lv_bipush (v := 60) hx hb dX3_lift_7 (by decide) ?_
  have hPc := hP.sub (ws' := []) [] rfl
  have hDc : va_D (fun q : Nat => L0 ≤ q) [] := (hD.sub (ws' := []) [] (by decide) rfl).weaken (fun _ z9 _ h9 => hAL _ h9)
  have hKc := hK.sub (tys' := []) [] rfl
  refine c_callR (va_runS (As := [.int v, .int 1, .int 60]) (rest := []) ⟨hx, hb, hml, hown, hts⟩ (q_isIn l D L0 v 1 60) (va_cwS 3 hts gX3_lift_X3_isIn rfl rfl rfl (by decide +kernel) ⟨Nat.le_of_ble_eq_true rfl, Nat.le_of_ble_eq_true rfl⟩) ⟨cP_blind, cP_of hPc hKc hDc (kE_at hE0 hAL hS)⟩ rfl rfl hl.1 rfl (lv_room (Nat.le_of_ble_eq_true rfl)) dX3_lift_9 ⟨Nat.le_of_ble_eq_true rfl, Nat.le_of_ble_eq_true rfl⟩) ?_
  show W _ _ _ _ _ _ _ _ _ _ _ _ _ _ _ (F0 m 12 ls [.int (bI (decide (1 ≤ v) && decide (v ≤ 60)))])
  obtain ⟨b_25, hbv_26⟩ : ∃ z9 : Bool, z9 = (decide (1 ≤ v) && decide (v ≤ 60)) := ⟨_, rfl⟩
  refine c_top (show (bI (decide (1 ≤ v) && decide (v ≤ 60))) = bI b_25 from by rw [hbv_26]) ?_
  refine lv_if_ne (tgt := 21) hx hb dX3_lift_12 (by decide) (fun c_27 => ?_) (fun c_27 => ?_)
  · have hp : inR v 1 60 := by cases b_25 with | true => simpa using hbv_26.symm | false => exact absurd rfl c_27
    refine lv_aload_n hx hb dX3_lift_21 rfl (lv_at hl 0 rfl) ?_
    refine va_get (D := D) (ci := 3) (v := .int ld) (C := RX3) (T := TX3) (N := 13) hx hb hts hiX3 hown hK hP 0 rfl rfl 3 (by decide) (hts (.fieldLink RX3 53 "CraneReachModel" "load" "I") (by decide +kernel)) (fun _ h9 => h9) rfl dX3_lift_22 ?_
    refine lv_if_gt (tgt := 44) hx hb dX3_lift_25 (by decide) (fun c_28 => ?_) (fun c_28 => ?_)
    · refine lv_aload_n hx hb dX3_lift_44 rfl (lv_at hl 0 rfl) ?_
      refine lv_iconst (v := 2) hx hb dX3_lift_45 (by decide) ?_
      have hPc := hP.sub (ws' := [(mm, .inr (3, [.int 0, .int (nI d), .int (nI r), .int ld, .int pl, .ref ao, .ref al, .int li, .int tl, .int mo, .ref aw, .ref aq, .int mn]))]) [0] rfl
      have hDc : va_D (fun q : Nat => L0 ≤ q) [(mm, .inr (3, [.int 0, .int (nI d), .int (nI r), .int ld, .int pl, .ref ao, .ref al, .int li, .int tl, .int mo, .ref aw, .ref aq, .int mn]))] := (hD.sub (ws' := [(mm, .inr (3, [.int 0, .int (nI d), .int (nI r), .int ld, .int pl, .ref ao, .ref al, .int li, .int tl, .int mo, .ref aw, .ref aq, .int mn]))]) [0] (by decide) rfl).weaken (fun _ z9 _ h9 => hAL _ h9)
      have hKc := hK.sub (tys' := []) [] rfl
      refine c_callB (va_runV (As := [.int 2]) (rest := []) ⟨hx, hb, hml, hown, hts⟩ (q_no l D L0 mm ao al aw aq d r 0 ld pl li tl mo mn 2) (cwV 1 hts gX3_lift_X3_no rfl rfl rfl (by decide +kernel) ⟨Nat.le_of_ble_eq_true rfl, Nat.le_of_ble_eq_true rfl⟩) ⟨cP_blind, va_recv hKc hPc (ci := 3) (q0 := 0) rfl rfl, cP_of hPc hKc hDc (kE_at hE0 hAL hS)⟩ rfl rfl hl.1 rfl (lv_room (Nat.le_of_ble_eq_true rfl)) dX3_lift_46 ⟨Nat.le_of_ble_eq_true rfl, Nat.le_of_ble_eq_true rfl⟩) hS (fun z9 _ ⟨k9, e9, h9⟩ => (hD.sub (ws' := [(mm, .inr (3, [.int 0, .int (nI d), .int (nI r), .int ld, .int pl, .ref ao, .ref al, .int li, .int tl, .int mo, .ref aw, .ref aq, .int mn]))]) [0] (by decide) rfl).2 k9 (z9, e9) h9) (fun z9 ⟨k9, e9, h9⟩ => (hD.sub (ws' := [(mm, .inr (3, [.int 0, .int (nI d), .int (nI r), .int ld, .int pl, .ref ao, .ref al, .int li, .int tl, .int mo, .ref aw, .ref aq, .int mn]))]) [0] (by decide) rfl).2 k9 (z9, e9) h9) (fun H1 locs hB hz1 hk1 hS => ?_)
      obtain ⟨hP, hD⟩ := c_join (ws' := [(mm, .inr (3, [.int 2, .int (nI d), .int (nI r), .int ld, .int pl, .ref ao, .ref al, .int li, .int tl, .int mo, .ref aw, .ref aq, .int mn])), (ao, .inl (cI, 4, .inl fo)), (al, .inl (cI, 31, .inl fl))]) (wr := [(ao, .inl (cI, 4, .inl fo)), (al, .inl (cI, 31, .inl fl))]) (w1 := [(mm, .inr (3, [.int 2, .int (nI d), .int (nI r), .int ld, .int pl, .ref ao, .ref al, .int li, .int tl, .int mo, .ref aw, .ref aq, .int mn]))]) hP hD [0] [1, 2] [2, 0, 1] rfl rfl (by decide) (by decide) hk1 hB rfl rfl rfl (by decide)
      generalize H1 = H at hP hS ⊢
      show W _ _ _ _ _ _ _ _ _ _ _ _ _ _ _ (F0 m 49 ls [.int 0])
      have hK1 : kLi ld (fun q => safS fo fl pl q d r) v = 2 := by rw [kLi, if_pos hp, if_neg (fun z => z.1 c_28)]
      have hKn : ¬ kLi ld (fun q => safS fo fl pl q d r) v = 0 := by rw [hK1]; decide
      exact W.iret (v := 0) hx hb hRt (fun t ht hW => ⟨⟨by simp only [if_neg hKn], by rw [ht]; exact (by simp only [if_neg hKn]; rw [hK1]; exact hP)⟩, hS.F ht⟩) hS.2.2 dX3_lift_49
    · refine lv_aload_n hx hb dX3_lift_28 rfl (lv_at hl 0 rfl) ?_
      refine lv_iload_n hx hb dX3_lift_29 rfl (lv_at hl 1 rfl) ?_
      refine lv_aload_n hx hb dX3_lift_30 rfl (lv_at hl 0 rfl) ?_
      refine va_get (D := D) (ci := 3) (v := .int (nI d)) (C := RX3) (T := TX3) (N := 13) hx hb hts hiX3 hown hK hP 0 rfl rfl 1 (by decide) (hts (.fieldLink RX3 56 "CraneReachModel" "direction" "I") (by decide +kernel)) (fun _ h9 => h9) rfl dX3_lift_31 ?_
      refine lv_aload_n hx hb dX3_lift_34 rfl (lv_at hl 0 rfl) ?_
      refine va_get (D := D) (ci := 3) (v := .int (nI r)) (C := RX3) (T := TX3) (N := 13) hx hb hts hiX3 hown hK hP 0 rfl rfl 2 (by decide) (hts (.fieldLink RX3 9 "CraneReachModel" "reach" "I") (by decide +kernel)) (fun _ h9 => h9) rfl dX3_lift_35 ?_
      have hPc := hP.sub (ws' := [(mm, .inr (3, [.int 0, .int (nI d), .int (nI r), .int ld, .int pl, .ref ao, .ref al, .int li, .int tl, .int mo, .ref aw, .ref aq, .int mn])), (ao, .inl (cI, 4, .inl fo)), (al, .inl (cI, 31, .inl fl))]) [0, 1, 2] rfl
      have hDc : va_D (fun q : Nat => L0 ≤ q) [(mm, .inr (3, [.int 0, .int (nI d), .int (nI r), .int ld, .int pl, .ref ao, .ref al, .int li, .int tl, .int mo, .ref aw, .ref aq, .int mn])), (ao, .inl (cI, 4, .inl fo)), (al, .inl (cI, 31, .inl fl))] := (hD.sub (ws' := [(mm, .inr (3, [.int 0, .int (nI d), .int (nI r), .int ld, .int pl, .ref ao, .ref al, .int li, .int tl, .int mo, .ref aw, .ref aq, .int mn])), (ao, .inl (cI, 4, .inl fo)), (al, .inl (cI, 31, .inl fl))]) [0, 1, 2] (by decide) rfl).weaken (fun _ z9 _ h9 => hAL _ h9)
      have hKc := hK.sub (tys' := [(cI, .int)]) [0] rfl
      refine c_callR (va_runV (As := [.int v, .int (nI d), .int (nI r)]) (rest := []) ⟨hx, hb, hml, hown, hts⟩ (q_isSafe l D L0 cI mm ao al aw aq d r 0 ld pl li tl mo mn fo fl d r v hd hr) (cwV 3 hts gX3_lift_X3_isSafe rfl rfl rfl (by decide +kernel) ⟨Nat.le_of_ble_eq_true rfl, Nat.le_of_ble_eq_true rfl⟩) ⟨cP_blind, va_recv hKc hPc (ci := 3) (q0 := 0) rfl rfl, cP_of hPc hKc hDc (kE_at hE0 hAL hS)⟩ rfl rfl hl.1 rfl (lv_room (Nat.le_of_ble_eq_true rfl)) dX3_lift_38 ⟨Nat.le_of_ble_eq_true rfl, Nat.le_of_ble_eq_true rfl⟩) ?_
      show W _ _ _ _ _ _ _ _ _ _ _ _ _ _ _ (F0 m 41 ls [.int (bI (safS fo fl pl v d r))])
      obtain ⟨b_29, hbv_30⟩ : ∃ z9 : Bool, z9 = safS fo fl pl v d r := ⟨_, rfl⟩
      refine c_top (show (bI (safS fo fl pl v d r)) = bI b_29 from by rw [hbv_30]) ?_
      refine lv_if_ne (tgt := 50) hx hb dX3_lift_41 (by decide) (fun c_31 => ?_) (fun c_31 => ?_)
      · have hs : safS fo fl pl v d r = true := by rw [← hbv_30]; cases b_29 with | true => rfl | false => exact absurd rfl c_31
        refine lv_aload_n hx hb dX3_lift_50 rfl (lv_at hl 0 rfl) ?_
        refine lv_iload_n hx hb dX3_lift_51 rfl (lv_at hl 1 rfl) ?_
        refine va_put (D := D) (ci := 3) (v := .int v) (ty := .int) (C := RX3) (T := TX3) (N := 13) hx hb hts hiX3 tyX3 tyX3_ok nmX3 hown hK hP hD hS 0 rfl rfl 3 (by decide) (hts (.fieldLink RX3 53 "CraneReachModel" "load" "I") (by decide +kernel)) (fun _ h9 => h9) rfl (by decide +kernel) rfl rfl (Nat.le_of_ble_eq_true rfl) dX3_lift_52 (fun H locs hP hD hS => ?_)
        have hP : va_P D vwCl [(mm, .inr (3, [.int 0, .int (nI d), .int (nI r), .int v, .int pl, .ref ao, .ref al, .int li, .int tl, .int mo, .ref aw, .ref aq, .int mn])), (ao, .inl (cI, 4, .inl fo)), (al, .inl (cI, 31, .inl fl))] H := hP
        have hD : va_D A [(mm, .inr (3, [.int 0, .int (nI d), .int (nI r), .int v, .int pl, .ref ao, .ref al, .int li, .int tl, .int mo, .ref aw, .ref aq, .int mn])), (ao, .inl (cI, 4, .inl fo)), (al, .inl (cI, 31, .inl fl))] := hD
        refine lv_aload_n hx hb dX3_lift_55 rfl (lv_at hl 0 rfl) ?_
        refine lv_dup hx hb dX3_lift_56 rfl ?_
        refine va_get (D := D) (ci := 3) (v := .int li) (C := RX3) (T := TX3) (N := 13) hx hb hts hiX3 hown hK hP 0 rfl rfl 7 (by decide) (hts (.fieldLink RX3 78 "CraneReachModel" "lifts" "I") (by decide +kernel)) (fun _ h9 => h9) rfl dX3_lift_57 ?_
        refine lv_iconst (v := 1) hx hb dX3_lift_60 (by decide) ?_
        refine lv_iadd hx hb dX3_lift_61 ?_
        refine va_put (D := D) (ci := 3) (v := .int (li + 1)) (ty := .int) (C := RX3) (T := TX3) (N := 13) hx hb hts hiX3 tyX3 tyX3_ok nmX3 hown hK hP hD hS 0 rfl rfl 7 (by decide) (hts (.fieldLink RX3 78 "CraneReachModel" "lifts" "I") (by decide +kernel)) (fun _ h9 => h9) rfl (by decide +kernel) rfl rfl (Nat.le_of_ble_eq_true rfl) dX3_lift_62 (fun H locs hP hD hS => ?_)
        have hP : va_P D vwCl [(mm, .inr (3, [.int 0, .int (nI d), .int (nI r), .int v, .int pl, .ref ao, .ref al, .int (li + 1), .int tl, .int mo, .ref aw, .ref aq, .int mn])), (ao, .inl (cI, 4, .inl fo)), (al, .inl (cI, 31, .inl fl))] H := hP
        have hD : va_D A [(mm, .inr (3, [.int 0, .int (nI d), .int (nI r), .int v, .int pl, .ref ao, .ref al, .int (li + 1), .int tl, .int mo, .ref aw, .ref aq, .int mn])), (ao, .inl (cI, 4, .inl fo)), (al, .inl (cI, 31, .inl fl))] := hD
        refine lv_aload_n hx hb dX3_lift_65 rfl (lv_at hl 0 rfl) ?_
        refine lv_dup hx hb dX3_lift_66 rfl ?_
        refine va_get (D := D) (ci := 3) (v := .int tl) (C := RX3) (T := TX3) (N := 13) hx hb hts hiX3 hown hK hP 0 rfl rfl 8 (by decide) (hts (.fieldLink RX3 81 "CraneReachModel" "tons" "I") (by decide +kernel)) (fun _ h9 => h9) rfl dX3_lift_67 ?_
        refine lv_iload_n hx hb dX3_lift_70 rfl (lv_at hl 1 rfl) ?_
        refine lv_iadd hx hb dX3_lift_71 ?_
        refine va_put (D := D) (ci := 3) (v := .int (tl + v)) (ty := .int) (C := RX3) (T := TX3) (N := 13) hx hb hts hiX3 tyX3 tyX3_ok nmX3 hown hK hP hD hS 0 rfl rfl 8 (by decide) (hts (.fieldLink RX3 81 "CraneReachModel" "tons" "I") (by decide +kernel)) (fun _ h9 => h9) rfl (by decide +kernel) rfl rfl (Nat.le_of_ble_eq_true rfl) dX3_lift_72 (fun H locs hP hD hS => ?_)
        have hP : va_P D vwCl [(mm, .inr (3, [.int 0, .int (nI d), .int (nI r), .int v, .int pl, .ref ao, .ref al, .int (li + 1), .int (tl + v), .int mo, .ref aw, .ref aq, .int mn])), (ao, .inl (cI, 4, .inl fo)), (al, .inl (cI, 31, .inl fl))] H := hP
        have hD : va_D A [(mm, .inr (3, [.int 0, .int (nI d), .int (nI r), .int v, .int pl, .ref ao, .ref al, .int (li + 1), .int (tl + v), .int mo, .ref aw, .ref aq, .int mn])), (ao, .inl (cI, 4, .inl fo)), (al, .inl (cI, 31, .inl fl))] := hD
        refine lv_aload_n hx hb dX3_lift_75 rfl (lv_at hl 0 rfl) ?_
        refine va_get (D := D) (ci := 3) (v := .int (li + 1)) (C := RX3) (T := TX3) (N := 13) hx hb hts hiX3 hown hK hP 0 rfl rfl 7 (by decide) (hts (.fieldLink RX3 78 "CraneReachModel" "lifts" "I") (by decide +kernel)) (fun _ h9 => h9) rfl dX3_lift_76 ?_
        have hK1 : kLi ld (fun q => safS fo fl pl q d r) v = 0 := by rw [kLi, if_pos hp, if_pos ⟨c_28, hs⟩]
        exact W.iret (v := (li + 1)) hx hb hRt (fun t ht hW => ⟨⟨by simp only [if_pos hK1], by rw [ht]; exact (by simp only [if_pos hK1]; rw [hK1]; exact hP)⟩, hS.F ht⟩) hS.2.2 dX3_lift_79
      · have hs : safS fo fl pl v d r = false := by rw [← hbv_30]; cases b_29 with | false => rfl | true => exact absurd c_31 (by decide)
        refine lv_aload_n hx hb dX3_lift_44 rfl (lv_at hl 0 rfl) ?_
        refine lv_iconst (v := 2) hx hb dX3_lift_45 (by decide) ?_
        have hPc := hP.sub (ws' := [(mm, .inr (3, [.int 0, .int (nI d), .int (nI r), .int ld, .int pl, .ref ao, .ref al, .int li, .int tl, .int mo, .ref aw, .ref aq, .int mn]))]) [0] rfl
        have hDc : va_D (fun q : Nat => L0 ≤ q) [(mm, .inr (3, [.int 0, .int (nI d), .int (nI r), .int ld, .int pl, .ref ao, .ref al, .int li, .int tl, .int mo, .ref aw, .ref aq, .int mn]))] := (hD.sub (ws' := [(mm, .inr (3, [.int 0, .int (nI d), .int (nI r), .int ld, .int pl, .ref ao, .ref al, .int li, .int tl, .int mo, .ref aw, .ref aq, .int mn]))]) [0] (by decide) rfl).weaken (fun _ z9 _ h9 => hAL _ h9)
        have hKc := hK.sub (tys' := []) [] rfl
        refine c_callB (va_runV (As := [.int 2]) (rest := []) ⟨hx, hb, hml, hown, hts⟩ (q_no l D L0 mm ao al aw aq d r 0 ld pl li tl mo mn 2) (cwV 1 hts gX3_lift_X3_no rfl rfl rfl (by decide +kernel) ⟨Nat.le_of_ble_eq_true rfl, Nat.le_of_ble_eq_true rfl⟩) ⟨cP_blind, va_recv hKc hPc (ci := 3) (q0 := 0) rfl rfl, cP_of hPc hKc hDc (kE_at hE0 hAL hS)⟩ rfl rfl hl.1 rfl (lv_room (Nat.le_of_ble_eq_true rfl)) dX3_lift_46 ⟨Nat.le_of_ble_eq_true rfl, Nat.le_of_ble_eq_true rfl⟩) hS (fun z9 _ ⟨k9, e9, h9⟩ => (hD.sub (ws' := [(mm, .inr (3, [.int 0, .int (nI d), .int (nI r), .int ld, .int pl, .ref ao, .ref al, .int li, .int tl, .int mo, .ref aw, .ref aq, .int mn]))]) [0] (by decide) rfl).2 k9 (z9, e9) h9) (fun z9 ⟨k9, e9, h9⟩ => (hD.sub (ws' := [(mm, .inr (3, [.int 0, .int (nI d), .int (nI r), .int ld, .int pl, .ref ao, .ref al, .int li, .int tl, .int mo, .ref aw, .ref aq, .int mn]))]) [0] (by decide) rfl).2 k9 (z9, e9) h9) (fun H1 locs hB hz1 hk1 hS => ?_)
        obtain ⟨hP, hD⟩ := c_join (ws' := [(mm, .inr (3, [.int 2, .int (nI d), .int (nI r), .int ld, .int pl, .ref ao, .ref al, .int li, .int tl, .int mo, .ref aw, .ref aq, .int mn])), (ao, .inl (cI, 4, .inl fo)), (al, .inl (cI, 31, .inl fl))]) (wr := [(ao, .inl (cI, 4, .inl fo)), (al, .inl (cI, 31, .inl fl))]) (w1 := [(mm, .inr (3, [.int 2, .int (nI d), .int (nI r), .int ld, .int pl, .ref ao, .ref al, .int li, .int tl, .int mo, .ref aw, .ref aq, .int mn]))]) hP hD [0] [1, 2] [2, 0, 1] rfl rfl (by decide) (by decide) hk1 hB rfl rfl rfl (by decide)
        generalize H1 = H at hP hS ⊢
        show W _ _ _ _ _ _ _ _ _ _ _ _ _ _ _ (F0 m 49 ls [.int 0])
        have hK1 : kLi ld (fun q => safS fo fl pl q d r) v = 2 := by rw [kLi, if_pos hp, if_neg (fun z => by rw [hs] at z; exact absurd z.2 (by decide))]
        have hKn : ¬ kLi ld (fun q => safS fo fl pl q d r) v = 0 := by rw [hK1]; decide
        exact W.iret (v := 0) hx hb hRt (fun t ht hW => ⟨⟨by simp only [if_neg hKn], by rw [ht]; exact (by simp only [if_neg hKn]; rw [hK1]; exact hP)⟩, hS.F ht⟩) hS.2.2 dX3_lift_49
  · have hn : ¬ (inR v 1 60) := fun hp => absurd c_27 (by rw [hbv_26]; simp [hp.1, hp.2, bI])
    refine lv_aload_n hx hb dX3_lift_15 rfl (lv_at hl 0 rfl) ?_
    refine lv_iconst (v := 1) hx hb dX3_lift_16 (by decide) ?_
    have hPc := hP.sub (ws' := [(mm, .inr (3, [.int 0, .int (nI d), .int (nI r), .int ld, .int pl, .ref ao, .ref al, .int li, .int tl, .int mo, .ref aw, .ref aq, .int mn]))]) [0] rfl
    have hDc : va_D (fun q : Nat => L0 ≤ q) [(mm, .inr (3, [.int 0, .int (nI d), .int (nI r), .int ld, .int pl, .ref ao, .ref al, .int li, .int tl, .int mo, .ref aw, .ref aq, .int mn]))] := (hD.sub (ws' := [(mm, .inr (3, [.int 0, .int (nI d), .int (nI r), .int ld, .int pl, .ref ao, .ref al, .int li, .int tl, .int mo, .ref aw, .ref aq, .int mn]))]) [0] (by decide) rfl).weaken (fun _ z9 _ h9 => hAL _ h9)
    have hKc := hK.sub (tys' := []) [] rfl
    refine c_callB (va_runV (As := [.int 1]) (rest := []) ⟨hx, hb, hml, hown, hts⟩ (q_no l D L0 mm ao al aw aq d r 0 ld pl li tl mo mn 1) (cwV 1 hts gX3_lift_X3_no rfl rfl rfl (by decide +kernel) ⟨Nat.le_of_ble_eq_true rfl, Nat.le_of_ble_eq_true rfl⟩) ⟨cP_blind, va_recv hKc hPc (ci := 3) (q0 := 0) rfl rfl, cP_of hPc hKc hDc (kE_at hE0 hAL hS)⟩ rfl rfl hl.1 rfl (lv_room (Nat.le_of_ble_eq_true rfl)) dX3_lift_17 ⟨Nat.le_of_ble_eq_true rfl, Nat.le_of_ble_eq_true rfl⟩) hS (fun z9 _ ⟨k9, e9, h9⟩ => (hD.sub (ws' := [(mm, .inr (3, [.int 0, .int (nI d), .int (nI r), .int ld, .int pl, .ref ao, .ref al, .int li, .int tl, .int mo, .ref aw, .ref aq, .int mn]))]) [0] (by decide) rfl).2 k9 (z9, e9) h9) (fun z9 ⟨k9, e9, h9⟩ => (hD.sub (ws' := [(mm, .inr (3, [.int 0, .int (nI d), .int (nI r), .int ld, .int pl, .ref ao, .ref al, .int li, .int tl, .int mo, .ref aw, .ref aq, .int mn]))]) [0] (by decide) rfl).2 k9 (z9, e9) h9) (fun H1 locs hB hz1 hk1 hS => ?_)
    obtain ⟨hP, hD⟩ := c_join (ws' := [(mm, .inr (3, [.int 1, .int (nI d), .int (nI r), .int ld, .int pl, .ref ao, .ref al, .int li, .int tl, .int mo, .ref aw, .ref aq, .int mn])), (ao, .inl (cI, 4, .inl fo)), (al, .inl (cI, 31, .inl fl))]) (wr := [(ao, .inl (cI, 4, .inl fo)), (al, .inl (cI, 31, .inl fl))]) (w1 := [(mm, .inr (3, [.int 1, .int (nI d), .int (nI r), .int ld, .int pl, .ref ao, .ref al, .int li, .int tl, .int mo, .ref aw, .ref aq, .int mn]))]) hP hD [0] [1, 2] [2, 0, 1] rfl rfl (by decide) (by decide) hk1 hB rfl rfl rfl (by decide)
    generalize H1 = H at hP hS ⊢
    show W _ _ _ _ _ _ _ _ _ _ _ _ _ _ _ (F0 m 20 ls [.int 0])
    have hK1 : kLi ld (fun q => safS fo fl pl q d r) v = 1 := by rw [kLi, if_neg hn]
    have hKn : ¬ kLi ld (fun q => safS fo fl pl q d r) v = 0 := by rw [hK1]; decide
    exact W.iret (v := 0) hx hb hRt (fun t ht hW => ⟨⟨by simp only [if_neg hKn], by rw [ht]; exact (by simp only [if_neg hKn]; rw [hK1]; exact hP)⟩, hS.F ht⟩) hS.2.2 dX3_lift_20
set_option maxHeartbeats 4000000 in
set_option maxRecDepth 100000 in
/-- setDown -/
theorem q_setDown (l : Launch) (D : va_G) (L0 : Nat) (cI : ClassId) (mm ao al aw aq d r : Nat) (th ld pl li tl mo mn : Int32) (fo fl : Nat → Int32) (hd : d < 8) (hr : 3 ≤ r ∧ r ≤ 30) : Met l yX3_setDown wsX3_setDown ({ frames := 3, cells := 0, slots := 0, locals := 81 }) (cP L0 D [(cI, .int)] [(mm, .inr (3, [.int th, .int (nI d), .int (nI r), .int ld, .int pl, .ref ao, .ref al, .int li, .int tl, .int mo, .ref aw, .ref aq, .int mn])), (ao, .inl (cI, 4, .inl fo)), (al, .inl (cI, 31, .inl fl))] [.ref mm]) (cB (some (.int (if kSD ld (fun q => safS fo fl pl q d r) = 0 then ld else 0))) (fun H => va_P D vwCl [(mm, .inr (3, [.int (kSD ld (fun q => safS fo fl pl q d r)), .int (nI d), .int (nI r), .int (if kSD ld (fun q => safS fo fl pl q d r) = 0 then 0 else ld), .int pl, .ref ao, .ref al, .int li, .int tl, .int mo, .ref aw, .ref aq, .int mn])), (ao, .inl (cI, 4, .inl fo)), (al, .inl (cI, 31, .inl fl))] H) (cA [(mm, .inr (3, [.int th, .int (nI d), .int (nI r), .int ld, .int pl, .ref ao, .ref al, .int li, .int tl, .int mo, .ref aw, .ref aq, .int mn])), (ao, .inl (cI, 4, .inl fo)), (al, .inl (cI, 31, .inl fl))])) 0 0 (cA [(mm, .inr (3, [.int th, .int (nI d), .int (nI r), .int ld, .int pl, .ref ao, .ref al, .int li, .int tl, .int mo, .ref aw, .ref aq, .int mn])), (ao, .inl (cI, 4, .inl fo)), (al, .inl (cI, 31, .inl fl))]) := by
  refine Met.ofW (cc := cX3_setDown) (maxL := 2) (ret := (some .int)) (by decide) rfl ?_
  intro p e s m args below meth c s₁ B hml hv
  obtain ⟨rfl, hP, hK, hD0, hE0⟩ := hv
  have hx := B.exec
  have hb := B.bytes
  have hRt := B.returns
  have hts := atoms_spec (ws := wsX3_setDown) B.pre
  have hown : s.vm.findClass RX3 = some m.cls := findClass_of_methodNamed B.named
  have hlocks := B.notSynchronized
  have hAL : ∀ z9 : Nat, cA [(mm, .inr (3, [.int th, .int (nI d), .int (nI r), .int ld, .int pl, .ref ao, .ref al, .int li, .int tl, .int mo, .ref aw, .ref aq, .int mn])), (ao, .inl (cI, 4, .inl fo)), (al, .inl (cI, 31, .inl fl))] z9 → L0 ≤ z9 := fun z9 ⟨k9, e9, h9⟩ => hD0.2 k9 (z9, e9) h9
  have hD : va_D (cA [(mm, .inr (3, [.int th, .int (nI d), .int (nI r), .int ld, .int pl, .ref ao, .ref al, .int li, .int tl, .int mo, .ref aw, .ref aq, .int mn])), (ao, .inl (cI, 4, .inl fo)), (al, .inl (cI, 31, .inl fl))]) [(mm, .inr (3, [.int th, .int (nI d), .int (nI r), .int ld, .int pl, .ref ao, .ref al, .int li, .int tl, .int mo, .ref aw, .ref aq, .int mn])), (ao, .inl (cI, 4, .inl fo)), (al, .inl (cI, 31, .inl fl))] := ⟨hD0.1, fun k9 z9 h9 => cA_of h9⟩
  generalize hAe : cA [(mm, .inr (3, [.int th, .int (nI d), .int (nI r), .int ld, .int pl, .ref ao, .ref al, .int li, .int tl, .int mo, .ref aw, .ref aq, .int mn])), (ao, .inl (cI, 4, .inl fo)), (al, .inl (cI, 31, .inl fl))] = A at hD hAL ⊢
  have hS : va_S A s.heap s.heap [] := va_S.rf
  have hiX3 : ∀ w ∈ u_ws RX3 TX3 13, w ∈ wsX3_setDown := by decide +kernel
  have hl := lv_entry ([.ref mm]) (n := 2) (Nat.le_of_ble_eq_true rfl)
  rw [lg_entry_eq]
  generalize (lg_sl ([.ref mm]) ++ List.replicate (2 - (lg_sl ([.ref mm])).length) Slot.unset).toArray = ls at hl ⊢
  have hl : lv_has ls 2 [(0, .ref mm)] := hl
  refine lv_aload_n hx hb dX3_setDown_0 rfl (lv_at hl 0 rfl) ?_
  refine lv_iconst (v := 0) hx hb dX3_setDown_1 (by decide) ?_
  refine va_put (D := D) (ci := 3) (v := .int 0) (ty := .int) (C := RX3) (T := TX3) (N := 13) hx hb hts hiX3 tyX3 tyX3_ok nmX3 hown hK hP hD hS 0 rfl rfl 0 (by decide) (hts (.fieldLink RX3 26 "CraneReachModel" "thrown" "I") (by decide +kernel)) (fun _ h9 => h9) rfl (by decide +kernel) rfl rfl (Nat.le_of_ble_eq_true rfl) dX3_setDown_2 (fun H locs hP hD hS => ?_)
  have hP : va_P D vwCl [(mm, .inr (3, [.int 0, .int (nI d), .int (nI r), .int ld, .int pl, .ref ao, .ref al, .int li, .int tl, .int mo, .ref aw, .ref aq, .int mn])), (ao, .inl (cI, 4, .inl fo)), (al, .inl (cI, 31, .inl fl))] H := hP
  have hD : va_D A [(mm, .inr (3, [.int 0, .int (nI d), .int (nI r), .int ld, .int pl, .ref ao, .ref al, .int li, .int tl, .int mo, .ref aw, .ref aq, .int mn])), (ao, .inl (cI, 4, .inl fo)), (al, .inl (cI, 31, .inl fl))] := hD
  refine lv_aload_n hx hb dX3_setDown_5 rfl (lv_at hl 0 rfl) ?_
  refine va_get (D := D) (ci := 3) (v := .int ld) (C := RX3) (T := TX3) (N := 13) hx hb hts hiX3 hown hK hP 0 rfl rfl 3 (by decide) (hts (.fieldLink RX3 53 "CraneReachModel" "load" "I") (by decide +kernel)) (fun _ h9 => h9) rfl dX3_setDown_6 ?_
  refine lv_if_eq (tgt := 28) hx hb dX3_setDown_9 (by decide) (fun c_32 => ?_) (fun c_32 => ?_)
  · refine lv_aload_n hx hb dX3_setDown_28 rfl (lv_at hl 0 rfl) ?_
    refine lv_iconst (v := 1) hx hb dX3_setDown_29 (by decide) ?_
    have hPc := hP.sub (ws' := [(mm, .inr (3, [.int 0, .int (nI d), .int (nI r), .int ld, .int pl, .ref ao, .ref al, .int li, .int tl, .int mo, .ref aw, .ref aq, .int mn]))]) [0] rfl
    have hDc : va_D (fun q : Nat => L0 ≤ q) [(mm, .inr (3, [.int 0, .int (nI d), .int (nI r), .int ld, .int pl, .ref ao, .ref al, .int li, .int tl, .int mo, .ref aw, .ref aq, .int mn]))] := (hD.sub (ws' := [(mm, .inr (3, [.int 0, .int (nI d), .int (nI r), .int ld, .int pl, .ref ao, .ref al, .int li, .int tl, .int mo, .ref aw, .ref aq, .int mn]))]) [0] (by decide) rfl).weaken (fun _ z9 _ h9 => hAL _ h9)
    have hKc := hK.sub (tys' := []) [] rfl
    refine c_callB (va_runV (As := [.int 1]) (rest := []) ⟨hx, hb, hml, hown, hts⟩ (q_no l D L0 mm ao al aw aq d r 0 ld pl li tl mo mn 1) (cwV 1 hts gX3_setDown_X3_no rfl rfl rfl (by decide +kernel) ⟨Nat.le_of_ble_eq_true rfl, Nat.le_of_ble_eq_true rfl⟩) ⟨cP_blind, va_recv hKc hPc (ci := 3) (q0 := 0) rfl rfl, cP_of hPc hKc hDc (kE_at hE0 hAL hS)⟩ rfl rfl hl.1 rfl (lv_room (Nat.le_of_ble_eq_true rfl)) dX3_setDown_30 ⟨Nat.le_of_ble_eq_true rfl, Nat.le_of_ble_eq_true rfl⟩) hS (fun z9 _ ⟨k9, e9, h9⟩ => (hD.sub (ws' := [(mm, .inr (3, [.int 0, .int (nI d), .int (nI r), .int ld, .int pl, .ref ao, .ref al, .int li, .int tl, .int mo, .ref aw, .ref aq, .int mn]))]) [0] (by decide) rfl).2 k9 (z9, e9) h9) (fun z9 ⟨k9, e9, h9⟩ => (hD.sub (ws' := [(mm, .inr (3, [.int 0, .int (nI d), .int (nI r), .int ld, .int pl, .ref ao, .ref al, .int li, .int tl, .int mo, .ref aw, .ref aq, .int mn]))]) [0] (by decide) rfl).2 k9 (z9, e9) h9) (fun H1 locs hB hz1 hk1 hS => ?_)
    obtain ⟨hP, hD⟩ := c_join (ws' := [(mm, .inr (3, [.int 1, .int (nI d), .int (nI r), .int ld, .int pl, .ref ao, .ref al, .int li, .int tl, .int mo, .ref aw, .ref aq, .int mn])), (ao, .inl (cI, 4, .inl fo)), (al, .inl (cI, 31, .inl fl))]) (wr := [(ao, .inl (cI, 4, .inl fo)), (al, .inl (cI, 31, .inl fl))]) (w1 := [(mm, .inr (3, [.int 1, .int (nI d), .int (nI r), .int ld, .int pl, .ref ao, .ref al, .int li, .int tl, .int mo, .ref aw, .ref aq, .int mn]))]) hP hD [0] [1, 2] [2, 0, 1] rfl rfl (by decide) (by decide) hk1 hB rfl rfl rfl (by decide)
    generalize H1 = H at hP hS ⊢
    show W _ _ _ _ _ _ _ _ _ _ _ _ _ _ _ (F0 m 33 ls [.int 0])
    have hK1 : kSD ld (fun q => safS fo fl pl q d r) = 1 := by rw [kSD, if_neg (fun z => z.1 c_32)]
    have hKn : ¬ kSD ld (fun q => safS fo fl pl q d r) = 0 := by rw [hK1]; decide
    exact W.iret (v := 0) hx hb hRt (fun t ht hW => ⟨⟨by simp only [if_neg hKn], by rw [ht]; exact (by simp only [if_neg hKn]; rw [hK1]; exact hP)⟩, hS.F ht⟩) hS.2.2 dX3_setDown_33
  · refine lv_aload_n hx hb dX3_setDown_12 rfl (lv_at hl 0 rfl) ?_
    refine lv_iconst (v := 0) hx hb dX3_setDown_13 (by decide) ?_
    refine lv_aload_n hx hb dX3_setDown_14 rfl (lv_at hl 0 rfl) ?_
    refine va_get (D := D) (ci := 3) (v := .int (nI d)) (C := RX3) (T := TX3) (N := 13) hx hb hts hiX3 hown hK hP 0 rfl rfl 1 (by decide) (hts (.fieldLink RX3 56 "CraneReachModel" "direction" "I") (by decide +kernel)) (fun _ h9 => h9) rfl dX3_setDown_15 ?_
    refine lv_aload_n hx hb dX3_setDown_18 rfl (lv_at hl 0 rfl) ?_
    refine va_get (D := D) (ci := 3) (v := .int (nI r)) (C := RX3) (T := TX3) (N := 13) hx hb hts hiX3 hown hK hP 0 rfl rfl 2 (by decide) (hts (.fieldLink RX3 9 "CraneReachModel" "reach" "I") (by decide +kernel)) (fun _ h9 => h9) rfl dX3_setDown_19 ?_
    have hPc := hP.sub (ws' := [(mm, .inr (3, [.int 0, .int (nI d), .int (nI r), .int ld, .int pl, .ref ao, .ref al, .int li, .int tl, .int mo, .ref aw, .ref aq, .int mn])), (ao, .inl (cI, 4, .inl fo)), (al, .inl (cI, 31, .inl fl))]) [0, 1, 2] rfl
    have hDc : va_D (fun q : Nat => L0 ≤ q) [(mm, .inr (3, [.int 0, .int (nI d), .int (nI r), .int ld, .int pl, .ref ao, .ref al, .int li, .int tl, .int mo, .ref aw, .ref aq, .int mn])), (ao, .inl (cI, 4, .inl fo)), (al, .inl (cI, 31, .inl fl))] := (hD.sub (ws' := [(mm, .inr (3, [.int 0, .int (nI d), .int (nI r), .int ld, .int pl, .ref ao, .ref al, .int li, .int tl, .int mo, .ref aw, .ref aq, .int mn])), (ao, .inl (cI, 4, .inl fo)), (al, .inl (cI, 31, .inl fl))]) [0, 1, 2] (by decide) rfl).weaken (fun _ z9 _ h9 => hAL _ h9)
    have hKc := hK.sub (tys' := [(cI, .int)]) [0] rfl
    refine c_callR (va_runV (As := [.int 0, .int (nI d), .int (nI r)]) (rest := []) ⟨hx, hb, hml, hown, hts⟩ (q_isSafe l D L0 cI mm ao al aw aq d r 0 ld pl li tl mo mn fo fl d r 0 hd hr) (cwV 3 hts gX3_setDown_X3_isSafe rfl rfl rfl (by decide +kernel) ⟨Nat.le_of_ble_eq_true rfl, Nat.le_of_ble_eq_true rfl⟩) ⟨cP_blind, va_recv hKc hPc (ci := 3) (q0 := 0) rfl rfl, cP_of hPc hKc hDc (kE_at hE0 hAL hS)⟩ rfl rfl hl.1 rfl (lv_room (Nat.le_of_ble_eq_true rfl)) dX3_setDown_22 ⟨Nat.le_of_ble_eq_true rfl, Nat.le_of_ble_eq_true rfl⟩) ?_
    show W _ _ _ _ _ _ _ _ _ _ _ _ _ _ _ (F0 m 25 ls [.int (bI (safS fo fl pl 0 d r))])
    obtain ⟨b_33, hbv_34⟩ : ∃ z9 : Bool, z9 = safS fo fl pl 0 d r := ⟨_, rfl⟩
    refine c_top (show (bI (safS fo fl pl 0 d r)) = bI b_33 from by rw [hbv_34]) ?_
    refine lv_if_ne (tgt := 34) hx hb dX3_setDown_25 (by decide) (fun c_35 => ?_) (fun c_35 => ?_)
    · have hs : safS fo fl pl 0 d r = true := by rw [← hbv_34]; cases b_33 with | true => rfl | false => exact absurd rfl c_35
      refine lv_aload_n hx hb dX3_setDown_34 rfl (lv_at hl 0 rfl) ?_
      refine va_get (D := D) (ci := 3) (v := .int ld) (C := RX3) (T := TX3) (N := 13) hx hb hts hiX3 hown hK hP 0 rfl rfl 3 (by decide) (hts (.fieldLink RX3 53 "CraneReachModel" "load" "I") (by decide +kernel)) (fun _ h9 => h9) rfl dX3_setDown_35 ?_
      refine lv_istore_n (lv' := [(1, .int ld), (0, .ref mm)]) hx hb dX3_setDown_38 rfl hl (by decide) rfl (fun ls hl => ?_)
      refine lv_aload_n hx hb dX3_setDown_39 rfl (lv_at hl 1 rfl) ?_
      refine lv_iconst (v := 0) hx hb dX3_setDown_40 (by decide) ?_
      refine va_put (D := D) (ci := 3) (v := .int 0) (ty := .int) (C := RX3) (T := TX3) (N := 13) hx hb hts hiX3 tyX3 tyX3_ok nmX3 hown hK hP hD hS 0 rfl rfl 3 (by decide) (hts (.fieldLink RX3 53 "CraneReachModel" "load" "I") (by decide +kernel)) (fun _ h9 => h9) rfl (by decide +kernel) rfl rfl (Nat.le_of_ble_eq_true rfl) dX3_setDown_41 (fun H locs hP hD hS => ?_)
      have hP : va_P D vwCl [(mm, .inr (3, [.int 0, .int (nI d), .int (nI r), .int 0, .int pl, .ref ao, .ref al, .int li, .int tl, .int mo, .ref aw, .ref aq, .int mn])), (ao, .inl (cI, 4, .inl fo)), (al, .inl (cI, 31, .inl fl))] H := hP
      have hD : va_D A [(mm, .inr (3, [.int 0, .int (nI d), .int (nI r), .int 0, .int pl, .ref ao, .ref al, .int li, .int tl, .int mo, .ref aw, .ref aq, .int mn])), (ao, .inl (cI, 4, .inl fo)), (al, .inl (cI, 31, .inl fl))] := hD
      refine lv_iload_n hx hb dX3_setDown_44 rfl (lv_at hl 0 rfl) ?_
      have hK1 : kSD ld (fun q => safS fo fl pl q d r) = 0 := by rw [kSD, if_pos ⟨c_32, hs⟩]
      exact W.iret (v := ld) hx hb hRt (fun t ht hW => ⟨⟨by simp only [if_pos hK1], by rw [ht]; exact (by simp only [if_pos hK1]; rw [hK1]; exact hP)⟩, hS.F ht⟩) hS.2.2 dX3_setDown_45
    · have hs : safS fo fl pl 0 d r = false := by rw [← hbv_34]; cases b_33 with | false => rfl | true => exact absurd c_35 (by decide)
      refine lv_aload_n hx hb dX3_setDown_28 rfl (lv_at hl 0 rfl) ?_
      refine lv_iconst (v := 1) hx hb dX3_setDown_29 (by decide) ?_
      have hPc := hP.sub (ws' := [(mm, .inr (3, [.int 0, .int (nI d), .int (nI r), .int ld, .int pl, .ref ao, .ref al, .int li, .int tl, .int mo, .ref aw, .ref aq, .int mn]))]) [0] rfl
      have hDc : va_D (fun q : Nat => L0 ≤ q) [(mm, .inr (3, [.int 0, .int (nI d), .int (nI r), .int ld, .int pl, .ref ao, .ref al, .int li, .int tl, .int mo, .ref aw, .ref aq, .int mn]))] := (hD.sub (ws' := [(mm, .inr (3, [.int 0, .int (nI d), .int (nI r), .int ld, .int pl, .ref ao, .ref al, .int li, .int tl, .int mo, .ref aw, .ref aq, .int mn]))]) [0] (by decide) rfl).weaken (fun _ z9 _ h9 => hAL _ h9)
      have hKc := hK.sub (tys' := []) [] rfl
      refine c_callB (va_runV (As := [.int 1]) (rest := []) ⟨hx, hb, hml, hown, hts⟩ (q_no l D L0 mm ao al aw aq d r 0 ld pl li tl mo mn 1) (cwV 1 hts gX3_setDown_X3_no rfl rfl rfl (by decide +kernel) ⟨Nat.le_of_ble_eq_true rfl, Nat.le_of_ble_eq_true rfl⟩) ⟨cP_blind, va_recv hKc hPc (ci := 3) (q0 := 0) rfl rfl, cP_of hPc hKc hDc (kE_at hE0 hAL hS)⟩ rfl rfl hl.1 rfl (lv_room (Nat.le_of_ble_eq_true rfl)) dX3_setDown_30 ⟨Nat.le_of_ble_eq_true rfl, Nat.le_of_ble_eq_true rfl⟩) hS (fun z9 _ ⟨k9, e9, h9⟩ => (hD.sub (ws' := [(mm, .inr (3, [.int 0, .int (nI d), .int (nI r), .int ld, .int pl, .ref ao, .ref al, .int li, .int tl, .int mo, .ref aw, .ref aq, .int mn]))]) [0] (by decide) rfl).2 k9 (z9, e9) h9) (fun z9 ⟨k9, e9, h9⟩ => (hD.sub (ws' := [(mm, .inr (3, [.int 0, .int (nI d), .int (nI r), .int ld, .int pl, .ref ao, .ref al, .int li, .int tl, .int mo, .ref aw, .ref aq, .int mn]))]) [0] (by decide) rfl).2 k9 (z9, e9) h9) (fun H1 locs hB hz1 hk1 hS => ?_)
      obtain ⟨hP, hD⟩ := c_join (ws' := [(mm, .inr (3, [.int 1, .int (nI d), .int (nI r), .int ld, .int pl, .ref ao, .ref al, .int li, .int tl, .int mo, .ref aw, .ref aq, .int mn])), (ao, .inl (cI, 4, .inl fo)), (al, .inl (cI, 31, .inl fl))]) (wr := [(ao, .inl (cI, 4, .inl fo)), (al, .inl (cI, 31, .inl fl))]) (w1 := [(mm, .inr (3, [.int 1, .int (nI d), .int (nI r), .int ld, .int pl, .ref ao, .ref al, .int li, .int tl, .int mo, .ref aw, .ref aq, .int mn]))]) hP hD [0] [1, 2] [2, 0, 1] rfl rfl (by decide) (by decide) hk1 hB rfl rfl rfl (by decide)
      generalize H1 = H at hP hS ⊢
      show W _ _ _ _ _ _ _ _ _ _ _ _ _ _ _ (F0 m 33 ls [.int 0])
      have hK1 : kSD ld (fun q => safS fo fl pl q d r) = 1 := by rw [kSD, if_neg (fun z => by rw [hs] at z; exact absurd z.2 (by decide))]
      have hKn : ¬ kSD ld (fun q => safS fo fl pl q d r) = 0 := by rw [hK1]; decide
      exact W.iret (v := 0) hx hb hRt (fun t ht hW => ⟨⟨by simp only [if_neg hKn], by rw [ht]; exact (by simp only [if_neg hKn]; rw [hK1]; exact hP)⟩, hS.F ht⟩) hS.2.2 dX3_setDown_33
set_option maxHeartbeats 4000000 in
set_option maxRecDepth 100000 in
/-- swing -/
theorem q_swing (l : Launch) (D : va_G) (L0 : Nat) (cI : ClassId) (mm ao al aw aq d r : Nat) (th ld pl li tl mo mn : Int32) (fo fl : Nat → Int32) (v u : Int32) (hd : d < 8) (hr : 3 ≤ r ∧ r ≤ 30) : Met l yX3_swing wsX3_swing ({ frames := 3, cells := 0, slots := 0, locals := 81 }) (cP L0 D [(cI, .int)] [(mm, .inr (3, [.int th, .int (nI d), .int (nI r), .int ld, .int pl, .ref ao, .ref al, .int li, .int tl, .int mo, .ref aw, .ref aq, .int mn])), (ao, .inl (cI, 4, .inl fo)), (al, .inl (cI, 31, .inl fl))] [.ref mm, .int v, .int u]) (cB (some (.int (if k1 (inR v 1 8) = 0 then nI (swN (fun k => safS fo fl pl ld k r) (decide (¬ u = 0)) v.toNatClampNeg d).1 else 0))) (fun H => va_P D vwCl [(mm, .inr (3, [.int (k1 (inR v 1 8)), .int (nI (if k1 (inR v 1 8) = 0 then (swN (fun k => safS fo fl pl ld k r) (decide (¬ u = 0)) v.toNatClampNeg d).2 else d)), .int (nI r), .int ld, .int pl, .ref ao, .ref al, .int li, .int tl, .int (if k1 (inR v 1 8) = 0 then (if 0 < ld then mo + nI (swN (fun k => safS fo fl pl ld k r) (decide (¬ u = 0)) v.toNatClampNeg d).1 else mo) else mo), .ref aw, .ref aq, .int mn])), (ao, .inl (cI, 4, .inl fo)), (al, .inl (cI, 31, .inl fl))] H) (cA [(mm, .inr (3, [.int th, .int (nI d), .int (nI r), .int ld, .int pl, .ref ao, .ref al, .int li, .int tl, .int mo, .ref aw, .ref aq, .int mn])), (ao, .inl (cI, 4, .inl fo)), (al, .inl (cI, 31, .inl fl))])) 0 0 (cA [(mm, .inr (3, [.int th, .int (nI d), .int (nI r), .int ld, .int pl, .ref ao, .ref al, .int li, .int tl, .int mo, .ref aw, .ref aq, .int mn])), (ao, .inl (cI, 4, .inl fo)), (al, .inl (cI, 31, .inl fl))]) := by
  refine Met.ofW (cc := cX3_swing) (maxL := 5) (ret := (some .int)) (by decide) rfl ?_
  intro p e s m args below meth c s₁ B hml hv
  obtain ⟨rfl, hP, hK, hD0, hE0⟩ := hv
  have hx := B.exec
  have hb := B.bytes
  have hRt := B.returns
  have hts := atoms_spec (ws := wsX3_swing) B.pre
  have hown : s.vm.findClass RX3 = some m.cls := findClass_of_methodNamed B.named
  have hlocks := B.notSynchronized
  have hAL : ∀ z9 : Nat, cA [(mm, .inr (3, [.int th, .int (nI d), .int (nI r), .int ld, .int pl, .ref ao, .ref al, .int li, .int tl, .int mo, .ref aw, .ref aq, .int mn])), (ao, .inl (cI, 4, .inl fo)), (al, .inl (cI, 31, .inl fl))] z9 → L0 ≤ z9 := fun z9 ⟨k9, e9, h9⟩ => hD0.2 k9 (z9, e9) h9
  have hD : va_D (cA [(mm, .inr (3, [.int th, .int (nI d), .int (nI r), .int ld, .int pl, .ref ao, .ref al, .int li, .int tl, .int mo, .ref aw, .ref aq, .int mn])), (ao, .inl (cI, 4, .inl fo)), (al, .inl (cI, 31, .inl fl))]) [(mm, .inr (3, [.int th, .int (nI d), .int (nI r), .int ld, .int pl, .ref ao, .ref al, .int li, .int tl, .int mo, .ref aw, .ref aq, .int mn])), (ao, .inl (cI, 4, .inl fo)), (al, .inl (cI, 31, .inl fl))] := ⟨hD0.1, fun k9 z9 h9 => cA_of h9⟩
  generalize hAe : cA [(mm, .inr (3, [.int th, .int (nI d), .int (nI r), .int ld, .int pl, .ref ao, .ref al, .int li, .int tl, .int mo, .ref aw, .ref aq, .int mn])), (ao, .inl (cI, 4, .inl fo)), (al, .inl (cI, 31, .inl fl))] = A at hD hAL ⊢
  have hS : va_S A s.heap s.heap [] := va_S.rf
  have hiX3 : ∀ w ∈ u_ws RX3 TX3 13, w ∈ wsX3_swing := by decide +kernel
  have hl := lv_entry ([.ref mm, .int v, .int u]) (n := 5) (Nat.le_of_ble_eq_true rfl)
  rw [lg_entry_eq]
  generalize (lg_sl ([.ref mm, .int v, .int u]) ++ List.replicate (5 - (lg_sl ([.ref mm, .int v, .int u])).length) Slot.unset).toArray = ls at hl ⊢
  have hl : lv_has ls 5 [(0, .ref mm), (1, .int v), (2, .int u)] := hl
  refine lv_aload_n hx hb dX3_swing_0 rfl (lv_at hl 0 rfl) ?_
  refine lv_iconst (v := 0) hx hb dX3_swing_1 (by decide) ?_
  refine va_put (D := D) (ci := 3) (v := .int 0) (ty := .int) (C := RX3) (T := TX3) (N := 13) hx hb hts hiX3 tyX3 tyX3_ok nmX3 hown hK hP hD hS 0 rfl rfl 0 (by decide) (hts (.fieldLink RX3 26 "CraneReachModel" "thrown" "I") (by decide +kernel)) (fun _ h9 => h9) rfl (by decide +kernel) rfl rfl (Nat.le_of_ble_eq_true rfl) dX3_swing_2 (fun H locs hP hD hS => ?_)
  have hP : va_P D vwCl [(mm, .inr (3, [.int 0, .int (nI d), .int (nI r), .int ld, .int pl, .ref ao, .ref al, .int li, .int tl, .int mo, .ref aw, .ref aq, .int mn])), (ao, .inl (cI, 4, .inl fo)), (al, .inl (cI, 31, .inl fl))] H := hP
  have hD : va_D A [(mm, .inr (3, [.int 0, .int (nI d), .int (nI r), .int ld, .int pl, .ref ao, .ref al, .int li, .int tl, .int mo, .ref aw, .ref aq, .int mn])), (ao, .inl (cI, 4, .inl fo)), (al, .inl (cI, 31, .inl fl))] := hD
  refine lv_iload_n hx hb dX3_swing_5 rfl (lv_at hl 1 rfl) ?_
  refine lv_iconst (v := 1) hx hb dX3_swing_6 (by decide) ?_
  refine lv_bipush (v := 8) hx hb dX3_swing_7 (by decide) ?_
  have hPc := hP.sub (ws' := []) [] rfl
  have hDc : va_D (fun q : Nat => L0 ≤ q) [] := (hD.sub (ws' := []) [] (by decide) rfl).weaken (fun _ z9 _ h9 => hAL _ h9)
  have hKc := hK.sub (tys' := []) [] rfl
  refine c_callR (va_runS (As := [.int v, .int 1, .int 8]) (rest := []) ⟨hx, hb, hml, hown, hts⟩ (q_isIn l D L0 v 1 8) (va_cwS 3 hts gX3_swing_X3_isIn rfl rfl rfl (by decide +kernel) ⟨Nat.le_of_ble_eq_true rfl, Nat.le_of_ble_eq_true rfl⟩) ⟨cP_blind, cP_of hPc hKc hDc (kE_at hE0 hAL hS)⟩ rfl rfl hl.1 rfl (lv_room (Nat.le_of_ble_eq_true rfl)) dX3_swing_9 ⟨Nat.le_of_ble_eq_true rfl, Nat.le_of_ble_eq_true rfl⟩) ?_
  show W _ _ _ _ _ _ _ _ _ _ _ _ _ _ _ (F0 m 12 ls [.int (bI (decide (1 ≤ v) && decide (v ≤ 8)))])
  obtain ⟨b_36, hbv_37⟩ : ∃ z9 : Bool, z9 = (decide (1 ≤ v) && decide (v ≤ 8)) := ⟨_, rfl⟩
  refine c_top (show (bI (decide (1 ≤ v) && decide (v ≤ 8))) = bI b_36 from by rw [hbv_37]) ?_
  refine lv_if_ne (tgt := 21) hx hb dX3_swing_12 (by decide) (fun c_38 => ?_) (fun c_38 => ?_)
  · have hp : inR v 1 8 := by cases b_36 with | true => simpa using hbv_37.symm | false => exact absurd rfl c_38
    obtain ⟨kv, hkv, hv⟩ := inR_n1 (n := 8) (by decide) hp
    have hl : lv_has ls 5 [(0, .ref mm), (1, .int (nI kv)), (2, .int u)] := (show v = nI kv from hv) ▸ hl
    have hvn : v.toNatClampNeg = kv := by rw [hv, nI_clamp (by omega)]
    have loop : ∀ (n : Nat) (k : Nat) (dk : Nat) (H : Heap) (locs : List Loc) (ls : Array Slot), k + n = kv → dk < 8 → (k + (swN (fun k => safS fo fl pl ld k r) (decide (¬ u = 0)) n dk).1 = (swN (fun k => safS fo fl pl ld k r) (decide (¬ u = 0)) v.toNatClampNeg d).1 ∧ (swN (fun k => safS fo fl pl ld k r) (decide (¬ u = 0)) n dk).2 = (swN (fun k => safS fo fl pl ld k r) (decide (¬ u = 0)) v.toNatClampNeg d).2) → lv_has ls 5 [(3, .int (nI k)), (0, .ref mm), (1, .int (nI kv)), (2, .int u)] → va_P D vwCl [(mm, .inr (3, [.int 0, .int (nI dk), .int (nI r), .int ld, .int pl, .ref ao, .ref al, .int li, .int tl, .int (mvI ld mo k), .ref aw, .ref aq, .int mn])), (ao, .inl (cI, 4, .inl fo)), (al, .inl (cI, 31, .inl fl))] H → va_D A [(mm, .inr (3, [.int 0, .int (nI dk), .int (nI r), .int ld, .int pl, .ref ao, .ref al, .int li, .int tl, .int (mvI ld mo k), .ref aw, .ref aq, .int mn])), (ao, .inl (cI, 4, .inl fo)), (al, .inl (cI, 31, .inl fl))] → va_S A s.heap H locs → W p l e (headSpec wsX3_swing ({ frames := 3, cells := 0, slots := 0, locals := 81 })).room s m ([.ref mm, .int v, .int u]).toArray below meth c H locs 0 0 (MQ below (cB (some (.int (if k1 (inR v 1 8) = 0 then nI (swN (fun k => safS fo fl pl ld k r) (decide (¬ u = 0)) v.toNatClampNeg d).1 else 0))) (fun H => va_P D vwCl [(mm, .inr (3, [.int (k1 (inR v 1 8)), .int (nI (if k1 (inR v 1 8) = 0 then (swN (fun k => safS fo fl pl ld k r) (decide (¬ u = 0)) v.toNatClampNeg d).2 else d)), .int (nI r), .int ld, .int pl, .ref ao, .ref al, .int li, .int tl, .int (if k1 (inR v 1 8) = 0 then (if 0 < ld then mo + nI (swN (fun k => safS fo fl pl ld k r) (decide (¬ u = 0)) v.toNatClampNeg d).1 else mo) else mo), .ref aw, .ref aq, .int mn])), (ao, .inl (cI, 4, .inl fo)), (al, .inl (cI, 31, .inl fl))] H) A) ([.ref mm, .int v, .int u]).toArray s 0 0 A) (F0 m 23 ls []) := by
      intro n
      induction n with
      | zero =>
        intro k dk H locs ls hn hdk hG hl hP hD hS
        have hG1 : (swN (fun k => safS fo fl pl ld k r) (decide (¬ u = 0)) v.toNatClampNeg d).1 = k := by rw [← hG.1]; rfl
        have hG2 : (swN (fun k => safS fo fl pl ld k r) (decide (¬ u = 0)) v.toNatClampNeg d).2 = dk := by rw [← hG.2]; rfl
        refine lv_iload_n hx hb dX3_swing_23 rfl (lv_at hl 0 rfl) ?_
        refine lv_iload_n hx hb dX3_swing_24 rfl (lv_at hl 2 rfl) ?_
        refine lv_icmp_ge (tgt := 83) hx hb dX3_swing_25 (by decide) (fun _ => ?_) (fun c_39 => absurd (by rw [show k = kv by omega]; exact Int32.le_refl _) c_39)
        refine lv_iload_n hx hb dX3_swing_83 rfl (lv_at hl 2 rfl) ?_
        unfold mvI at hP
        rw [← hG2] at hP
        rw [← hG1] at hP
        have hK1 : k1 (inR v 1 8) = 0 := k1_yes hp
        exact W.iret (v := (nI kv)) hx hb hRt (fun t ht hW => ⟨⟨by simp only [if_pos hK1]; rw [hG1, show k = kv by omega], by rw [ht]; exact (by simp only [if_pos hK1]; rw [hK1]; exact hP)⟩, hS.F ht⟩) hS.2.2 dX3_swing_84
      | succ n ih =>
        intro k dk H locs ls hn hdk hG hl hP hD hS
        refine lv_iload_n hx hb dX3_swing_23 rfl (lv_at hl 0 rfl) ?_
        refine lv_iload_n hx hb dX3_swing_24 rfl (lv_at hl 2 rfl) ?_
        refine lv_icmp_ge (tgt := 83) hx hb dX3_swing_25 (by decide) (fun c_40 => absurd c_40 (nI_ge (by omega) (by omega))) (fun _ => ?_)
        refine lv_aload_n hx hb dX3_swing_28 rfl (lv_at hl 1 rfl) ?_
        refine va_get (D := D) (ci := 3) (v := .int (nI dk)) (C := RX3) (T := TX3) (N := 13) hx hb hts hiX3 hown hK hP 0 rfl rfl 1 (by decide) (hts (.fieldLink RX3 56 "CraneReachModel" "direction" "I") (by decide +kernel)) (fun _ h9 => h9) rfl dX3_swing_29 ?_
        refine lv_iload_n hx hb dX3_swing_32 rfl (lv_at hl 3 rfl) ?_
        refine lv_if_eq (tgt := 40) hx hb dX3_swing_33 (by decide) (fun c_41 => ?_) (fun c_41 => ?_)
        · refine lv_bipush (v := 7) hx hb dX3_swing_40 (by decide) ?_
          refine lv_iadd hx hb dX3_swing_42 ?_
          refine lv_bipush (v := 8) hx hb dX3_swing_43 (by decide) ?_
          refine lv_irem hx hb dX3_swing_45 (by decide) ?_
          refine c_top (show (((nI dk) + 7) - ((nI dk) + 7) / 8 * 8) = nI (swX (decide (¬ u = 0)) dk) from by rw [show (decide (¬ u = 0)) = false from by simp [c_41]]; exact swM false dk hdk) ?_
          refine lv_istore (lv' := [(4, .int (nI (swX (decide (¬ u = 0)) dk))), (3, .int (nI k)), (0, .ref mm), (1, .int (nI kv)), (2, .int u)]) hx hb dX3_swing_46 hl (by decide) rfl (fun ls hl => ?_)
          refine lv_aload_n hx hb dX3_swing_48 rfl (lv_at hl 2 rfl) ?_
          refine lv_aload_n hx hb dX3_swing_49 rfl (lv_at hl 2 rfl) ?_
          refine va_get (D := D) (ci := 3) (v := .int ld) (C := RX3) (T := TX3) (N := 13) hx hb hts hiX3 hown hK hP 0 rfl rfl 3 (by decide) (hts (.fieldLink RX3 53 "CraneReachModel" "load" "I") (by decide +kernel)) (fun _ h9 => h9) rfl dX3_swing_50 ?_
          refine lv_iload hx hb dX3_swing_53 (lv_at hl 0 rfl) ?_
          refine lv_aload_n hx hb dX3_swing_55 rfl (lv_at hl 2 rfl) ?_
          refine va_get (D := D) (ci := 3) (v := .int (nI r)) (C := RX3) (T := TX3) (N := 13) hx hb hts hiX3 hown hK hP 0 rfl rfl 2 (by decide) (hts (.fieldLink RX3 9 "CraneReachModel" "reach" "I") (by decide +kernel)) (fun _ h9 => h9) rfl dX3_swing_56 ?_
          have hPc := hP.sub (ws' := [(mm, .inr (3, [.int 0, .int (nI dk), .int (nI r), .int ld, .int pl, .ref ao, .ref al, .int li, .int tl, .int (mvI ld mo k), .ref aw, .ref aq, .int mn])), (ao, .inl (cI, 4, .inl fo)), (al, .inl (cI, 31, .inl fl))]) [0, 1, 2] rfl
          have hDc : va_D (fun q : Nat => L0 ≤ q) [(mm, .inr (3, [.int 0, .int (nI dk), .int (nI r), .int ld, .int pl, .ref ao, .ref al, .int li, .int tl, .int (mvI ld mo k), .ref aw, .ref aq, .int mn])), (ao, .inl (cI, 4, .inl fo)), (al, .inl (cI, 31, .inl fl))] := (hD.sub (ws' := [(mm, .inr (3, [.int 0, .int (nI dk), .int (nI r), .int ld, .int pl, .ref ao, .ref al, .int li, .int tl, .int (mvI ld mo k), .ref aw, .ref aq, .int mn])), (ao, .inl (cI, 4, .inl fo)), (al, .inl (cI, 31, .inl fl))]) [0, 1, 2] (by decide) rfl).weaken (fun _ z9 _ h9 => hAL _ h9)
          have hKc := hK.sub (tys' := [(cI, .int)]) [0] rfl
          refine c_callR (va_runV (As := [.int ld, .int (nI (swX (decide (¬ u = 0)) dk)), .int (nI r)]) (rest := []) ⟨hx, hb, hml, hown, hts⟩ (q_isSafe l D L0 cI mm ao al aw aq dk r 0 ld pl li tl (mvI ld mo k) mn fo fl (swX (decide (¬ u = 0)) dk) r ld swX_lt hr) (cwV 3 hts gX3_swing_X3_isSafe rfl rfl rfl (by decide +kernel) ⟨Nat.le_of_ble_eq_true rfl, Nat.le_of_ble_eq_true rfl⟩) ⟨cP_blind, va_recv hKc hPc (ci := 3) (q0 := 0) rfl rfl, cP_of hPc hKc hDc (kE_at hE0 hAL hS)⟩ rfl rfl hl.1 rfl (lv_room (Nat.le_of_ble_eq_true rfl)) dX3_swing_59 ⟨Nat.le_of_ble_eq_true rfl, Nat.le_of_ble_eq_true rfl⟩) ?_
          show W _ _ _ _ _ _ _ _ _ _ _ _ _ _ _ (F0 m 62 ls [.int (bI (safS fo fl pl ld (swX (decide (¬ u = 0)) dk) r))])
          obtain ⟨b_42, hbv_43⟩ : ∃ z9 : Bool, z9 = safS fo fl pl ld (swX (decide (¬ u = 0)) dk) r := ⟨_, rfl⟩
          refine c_top (show (bI (safS fo fl pl ld (swX (decide (¬ u = 0)) dk) r)) = bI b_42 from by rw [hbv_43]) ?_
          refine lv_if_ne (tgt := 67) hx hb dX3_swing_62 (by decide) (fun c_44 => ?_) (fun c_44 => ?_)
          · have hs : safS fo fl pl ld (swX (decide (¬ u = 0)) dk) r = true := by rw [← hbv_43]; cases b_42 with | true => rfl | false => exact absurd rfl c_44
            refine lv_aload_n hx hb dX3_swing_67 rfl (lv_at hl 2 rfl) ?_
            refine lv_iload hx hb dX3_swing_68 (lv_at hl 0 rfl) ?_
            refine va_put (D := D) (ci := 3) (v := .int (nI (swX (decide (¬ u = 0)) dk))) (ty := .int) (C := RX3) (T := TX3) (N := 13) hx hb hts hiX3 tyX3 tyX3_ok nmX3 hown hK hP hD hS 0 rfl rfl 1 (by decide) (hts (.fieldLink RX3 56 "CraneReachModel" "direction" "I") (by decide +kernel)) (fun _ h9 => h9) rfl (by decide +kernel) rfl rfl (Nat.le_of_ble_eq_true rfl) dX3_swing_70 (fun H locs hP hD hS => ?_)
            have hP : va_P D vwCl [(mm, .inr (3, [.int 0, .int (nI (swX (decide (¬ u = 0)) dk)), .int (nI r), .int ld, .int pl, .ref ao, .ref al, .int li, .int tl, .int (mvI ld mo k), .ref aw, .ref aq, .int mn])), (ao, .inl (cI, 4, .inl fo)), (al, .inl (cI, 31, .inl fl))] H := hP
            have hD : va_D A [(mm, .inr (3, [.int 0, .int (nI (swX (decide (¬ u = 0)) dk)), .int (nI r), .int ld, .int pl, .ref ao, .ref al, .int li, .int tl, .int (mvI ld mo k), .ref aw, .ref aq, .int mn])), (ao, .inl (cI, 4, .inl fo)), (al, .inl (cI, 31, .inl fl))] := hD
            refine lv_aload_n hx hb dX3_swing_73 rfl (lv_at hl 2 rfl) ?_
            have hPc := hP.sub (ws' := [(mm, .inr (3, [.int 0, .int (nI (swX (decide (¬ u = 0)) dk)), .int (nI r), .int ld, .int pl, .ref ao, .ref al, .int li, .int tl, .int (mvI ld mo k), .ref aw, .ref aq, .int mn]))]) [0] rfl
            have hDc : va_D (fun q : Nat => L0 ≤ q) [(mm, .inr (3, [.int 0, .int (nI (swX (decide (¬ u = 0)) dk)), .int (nI r), .int ld, .int pl, .ref ao, .ref al, .int li, .int tl, .int (mvI ld mo k), .ref aw, .ref aq, .int mn]))] := (hD.sub (ws' := [(mm, .inr (3, [.int 0, .int (nI (swX (decide (¬ u = 0)) dk)), .int (nI r), .int ld, .int pl, .ref ao, .ref al, .int li, .int tl, .int (mvI ld mo k), .ref aw, .ref aq, .int mn]))]) [0] (by decide) rfl).weaken (fun _ z9 _ h9 => hAL _ h9)
            have hKc := hK.sub (tys' := []) [] rfl
            refine c_callB (va_runV (As := []) (rest := []) ⟨hx, hb, hml, hown, hts⟩ (q_moved l D L0 mm ao al aw aq (swX (decide (¬ u = 0)) dk) r 0 ld pl li tl (mvI ld mo k) mn) (cwV 0 hts gX3_swing_X3_moved rfl rfl rfl (by decide +kernel) ⟨Nat.le_of_ble_eq_true rfl, Nat.le_of_ble_eq_true rfl⟩) ⟨cP_blind, va_recv hKc hPc (ci := 3) (q0 := 0) rfl rfl, cP_of hPc hKc hDc (kE_at hE0 hAL hS)⟩ rfl rfl hl.1 rfl (lv_room (Nat.le_of_ble_eq_true rfl)) dX3_swing_74 ⟨Nat.le_of_ble_eq_true rfl, Nat.le_of_ble_eq_true rfl⟩) hS (fun z9 _ ⟨k9, e9, h9⟩ => (hD.sub (ws' := [(mm, .inr (3, [.int 0, .int (nI (swX (decide (¬ u = 0)) dk)), .int (nI r), .int ld, .int pl, .ref ao, .ref al, .int li, .int tl, .int (mvI ld mo k), .ref aw, .ref aq, .int mn]))]) [0] (by decide) rfl).2 k9 (z9, e9) h9) (fun z9 ⟨k9, e9, h9⟩ => (hD.sub (ws' := [(mm, .inr (3, [.int 0, .int (nI (swX (decide (¬ u = 0)) dk)), .int (nI r), .int ld, .int pl, .ref ao, .ref al, .int li, .int tl, .int (mvI ld mo k), .ref aw, .ref aq, .int mn]))]) [0] (by decide) rfl).2 k9 (z9, e9) h9) (fun H1 locs hB hz1 hk1 hS => ?_)
            obtain ⟨hP, hD⟩ := c_join (ws' := [(mm, .inr (3, [.int 0, .int (nI (swX (decide (¬ u = 0)) dk)), .int (nI r), .int ld, .int pl, .ref ao, .ref al, .int li, .int tl, .int (mvI ld mo k + (if 0 < ld then 1 else 0)), .ref aw, .ref aq, .int mn])), (ao, .inl (cI, 4, .inl fo)), (al, .inl (cI, 31, .inl fl))]) (wr := [(ao, .inl (cI, 4, .inl fo)), (al, .inl (cI, 31, .inl fl))]) (w1 := [(mm, .inr (3, [.int 0, .int (nI (swX (decide (¬ u = 0)) dk)), .int (nI r), .int ld, .int pl, .ref ao, .ref al, .int li, .int tl, .int (mvI ld mo k + (if 0 < ld then 1 else 0)), .ref aw, .ref aq, .int mn]))]) hP hD [0] [1, 2] [2, 0, 1] rfl rfl (by decide) (by decide) hk1 hB rfl rfl rfl (by decide)
            generalize H1 = H at hP hS ⊢
            show W _ _ _ _ _ _ _ _ _ _ _ _ _ _ _ (F0 m 77 ls [])
            rw [mvI_s] at hP hD
            have hP : va_P D vwCl [(mm, .inr (3, [.int 0, .int (nI (swX (decide (¬ u = 0)) dk)), .int (nI r), .int ld, .int pl, .ref ao, .ref al, .int li, .int tl, .int (mvI ld mo (k + 1)), .ref aw, .ref aq, .int mn])), (ao, .inl (cI, 4, .inl fo)), (al, .inl (cI, 31, .inl fl))] H := hP
            have hD : va_D A [(mm, .inr (3, [.int 0, .int (nI (swX (decide (¬ u = 0)) dk)), .int (nI r), .int ld, .int pl, .ref ao, .ref al, .int li, .int tl, .int (mvI ld mo (k + 1)), .ref aw, .ref aq, .int mn])), (ao, .inl (cI, 4, .inl fo)), (al, .inl (cI, 31, .inl fl))] := hD
            refine lv_iinc (v := (nI k) + 1) (lv' := [(3, .int ((nI k) + 1)), (4, .int (nI (swX (decide (¬ u = 0)) dk))), (0, .ref mm), (1, .int (nI kv)), (2, .int u)]) hx hb dX3_swing_77 hl (k := 1) rfl rfl (by decide) rfl (fun ls hl => ?_)
            refine lv_goto (tgt := 23) hx hb dX3_swing_80 (by decide) ?_
            have hl : lv_has ls 5 [(3, .int (nI (k + 1))), (4, .int (nI (swX (decide (¬ u = 0)) dk))), (0, .ref mm), (1, .int (nI kv)), (2, .int u)] := (show (nI k) + 1 = nI (k + 1) from nI_1 k) ▸ hl
            exact ih (k + 1) (swX (decide (¬ u = 0)) dk) _ _ _ (by omega) swX_lt (by rw [swN, if_pos hs] at hG; exact ⟨by rw [← hG.1]; exact (Nat.add_right_comm k 1 _).trans (Nat.add_assoc k _ 1), hG.2⟩) (lv_sub hl [0, 2, 3, 4] rfl) hP hD hS
          · have hs : safS fo fl pl ld (swX (decide (¬ u = 0)) dk) r = false := by rw [← hbv_43]; cases b_42 with | false => rfl | true => exact absurd c_44 (by decide)
            have hG1 : (swN (fun k => safS fo fl pl ld k r) (decide (¬ u = 0)) v.toNatClampNeg d).1 = k := by rw [← hG.1, swN, if_neg (by rw [hs]; decide)]; rfl
            have hG2 : (swN (fun k => safS fo fl pl ld k r) (decide (¬ u = 0)) v.toNatClampNeg d).2 = dk := by rw [← hG.2, swN, if_neg (by rw [hs]; decide)]
            refine lv_iload_n hx hb dX3_swing_65 rfl (lv_at hl 1 rfl) ?_
            unfold mvI at hP
            rw [← hG2] at hP
            rw [← hG1] at hP
            have hK1 : k1 (inR v 1 8) = 0 := k1_yes hp
            exact W.iret (v := (nI k)) hx hb hRt (fun t ht hW => ⟨⟨by simp only [if_pos hK1]; rw [hG1], by rw [ht]; exact (by simp only [if_pos hK1]; rw [hK1]; exact hP)⟩, hS.F ht⟩) hS.2.2 dX3_swing_66
        · refine lv_iconst (v := 1) hx hb dX3_swing_36 (by decide) ?_
          refine lv_goto (tgt := 42) hx hb dX3_swing_37 (by decide) ?_
          refine lv_iadd hx hb dX3_swing_42 ?_
          refine lv_bipush (v := 8) hx hb dX3_swing_43 (by decide) ?_
          refine lv_irem hx hb dX3_swing_45 (by decide) ?_
          refine c_top (show (((nI dk) + 1) - ((nI dk) + 1) / 8 * 8) = nI (swX (decide (¬ u = 0)) dk) from by rw [show (decide (¬ u = 0)) = true from by simp [c_41]]; exact swM true dk hdk) ?_
          refine lv_istore (lv' := [(4, .int (nI (swX (decide (¬ u = 0)) dk))), (3, .int (nI k)), (0, .ref mm), (1, .int (nI kv)), (2, .int u)]) hx hb dX3_swing_46 hl (by decide) rfl (fun ls hl => ?_)
          refine lv_aload_n hx hb dX3_swing_48 rfl (lv_at hl 2 rfl) ?_
          refine lv_aload_n hx hb dX3_swing_49 rfl (lv_at hl 2 rfl) ?_
          refine va_get (D := D) (ci := 3) (v := .int ld) (C := RX3) (T := TX3) (N := 13) hx hb hts hiX3 hown hK hP 0 rfl rfl 3 (by decide) (hts (.fieldLink RX3 53 "CraneReachModel" "load" "I") (by decide +kernel)) (fun _ h9 => h9) rfl dX3_swing_50 ?_
          refine lv_iload hx hb dX3_swing_53 (lv_at hl 0 rfl) ?_
          refine lv_aload_n hx hb dX3_swing_55 rfl (lv_at hl 2 rfl) ?_
          refine va_get (D := D) (ci := 3) (v := .int (nI r)) (C := RX3) (T := TX3) (N := 13) hx hb hts hiX3 hown hK hP 0 rfl rfl 2 (by decide) (hts (.fieldLink RX3 9 "CraneReachModel" "reach" "I") (by decide +kernel)) (fun _ h9 => h9) rfl dX3_swing_56 ?_
          have hPc := hP.sub (ws' := [(mm, .inr (3, [.int 0, .int (nI dk), .int (nI r), .int ld, .int pl, .ref ao, .ref al, .int li, .int tl, .int (mvI ld mo k), .ref aw, .ref aq, .int mn])), (ao, .inl (cI, 4, .inl fo)), (al, .inl (cI, 31, .inl fl))]) [0, 1, 2] rfl
          have hDc : va_D (fun q : Nat => L0 ≤ q) [(mm, .inr (3, [.int 0, .int (nI dk), .int (nI r), .int ld, .int pl, .ref ao, .ref al, .int li, .int tl, .int (mvI ld mo k), .ref aw, .ref aq, .int mn])), (ao, .inl (cI, 4, .inl fo)), (al, .inl (cI, 31, .inl fl))] := (hD.sub (ws' := [(mm, .inr (3, [.int 0, .int (nI dk), .int (nI r), .int ld, .int pl, .ref ao, .ref al, .int li, .int tl, .int (mvI ld mo k), .ref aw, .ref aq, .int mn])), (ao, .inl (cI, 4, .inl fo)), (al, .inl (cI, 31, .inl fl))]) [0, 1, 2] (by decide) rfl).weaken (fun _ z9 _ h9 => hAL _ h9)
          have hKc := hK.sub (tys' := [(cI, .int)]) [0] rfl
          refine c_callR (va_runV (As := [.int ld, .int (nI (swX (decide (¬ u = 0)) dk)), .int (nI r)]) (rest := []) ⟨hx, hb, hml, hown, hts⟩ (q_isSafe l D L0 cI mm ao al aw aq dk r 0 ld pl li tl (mvI ld mo k) mn fo fl (swX (decide (¬ u = 0)) dk) r ld swX_lt hr) (cwV 3 hts gX3_swing_X3_isSafe rfl rfl rfl (by decide +kernel) ⟨Nat.le_of_ble_eq_true rfl, Nat.le_of_ble_eq_true rfl⟩) ⟨cP_blind, va_recv hKc hPc (ci := 3) (q0 := 0) rfl rfl, cP_of hPc hKc hDc (kE_at hE0 hAL hS)⟩ rfl rfl hl.1 rfl (lv_room (Nat.le_of_ble_eq_true rfl)) dX3_swing_59 ⟨Nat.le_of_ble_eq_true rfl, Nat.le_of_ble_eq_true rfl⟩) ?_
          show W _ _ _ _ _ _ _ _ _ _ _ _ _ _ _ (F0 m 62 ls [.int (bI (safS fo fl pl ld (swX (decide (¬ u = 0)) dk) r))])
          obtain ⟨b_45, hbv_46⟩ : ∃ z9 : Bool, z9 = safS fo fl pl ld (swX (decide (¬ u = 0)) dk) r := ⟨_, rfl⟩
          refine c_top (show (bI (safS fo fl pl ld (swX (decide (¬ u = 0)) dk) r)) = bI b_45 from by rw [hbv_46]) ?_
          refine lv_if_ne (tgt := 67) hx hb dX3_swing_62 (by decide) (fun c_47 => ?_) (fun c_47 => ?_)
          · have hs : safS fo fl pl ld (swX (decide (¬ u = 0)) dk) r = true := by rw [← hbv_46]; cases b_45 with | true => rfl | false => exact absurd rfl c_47
            refine lv_aload_n hx hb dX3_swing_67 rfl (lv_at hl 2 rfl) ?_
            refine lv_iload hx hb dX3_swing_68 (lv_at hl 0 rfl) ?_
            refine va_put (D := D) (ci := 3) (v := .int (nI (swX (decide (¬ u = 0)) dk))) (ty := .int) (C := RX3) (T := TX3) (N := 13) hx hb hts hiX3 tyX3 tyX3_ok nmX3 hown hK hP hD hS 0 rfl rfl 1 (by decide) (hts (.fieldLink RX3 56 "CraneReachModel" "direction" "I") (by decide +kernel)) (fun _ h9 => h9) rfl (by decide +kernel) rfl rfl (Nat.le_of_ble_eq_true rfl) dX3_swing_70 (fun H locs hP hD hS => ?_)
            have hP : va_P D vwCl [(mm, .inr (3, [.int 0, .int (nI (swX (decide (¬ u = 0)) dk)), .int (nI r), .int ld, .int pl, .ref ao, .ref al, .int li, .int tl, .int (mvI ld mo k), .ref aw, .ref aq, .int mn])), (ao, .inl (cI, 4, .inl fo)), (al, .inl (cI, 31, .inl fl))] H := hP
            have hD : va_D A [(mm, .inr (3, [.int 0, .int (nI (swX (decide (¬ u = 0)) dk)), .int (nI r), .int ld, .int pl, .ref ao, .ref al, .int li, .int tl, .int (mvI ld mo k), .ref aw, .ref aq, .int mn])), (ao, .inl (cI, 4, .inl fo)), (al, .inl (cI, 31, .inl fl))] := hD
            refine lv_aload_n hx hb dX3_swing_73 rfl (lv_at hl 2 rfl) ?_
            have hPc := hP.sub (ws' := [(mm, .inr (3, [.int 0, .int (nI (swX (decide (¬ u = 0)) dk)), .int (nI r), .int ld, .int pl, .ref ao, .ref al, .int li, .int tl, .int (mvI ld mo k), .ref aw, .ref aq, .int mn]))]) [0] rfl
            have hDc : va_D (fun q : Nat => L0 ≤ q) [(mm, .inr (3, [.int 0, .int (nI (swX (decide (¬ u = 0)) dk)), .int (nI r), .int ld, .int pl, .ref ao, .ref al, .int li, .int tl, .int (mvI ld mo k), .ref aw, .ref aq, .int mn]))] := (hD.sub (ws' := [(mm, .inr (3, [.int 0, .int (nI (swX (decide (¬ u = 0)) dk)), .int (nI r), .int ld, .int pl, .ref ao, .ref al, .int li, .int tl, .int (mvI ld mo k), .ref aw, .ref aq, .int mn]))]) [0] (by decide) rfl).weaken (fun _ z9 _ h9 => hAL _ h9)
            have hKc := hK.sub (tys' := []) [] rfl
            refine c_callB (va_runV (As := []) (rest := []) ⟨hx, hb, hml, hown, hts⟩ (q_moved l D L0 mm ao al aw aq (swX (decide (¬ u = 0)) dk) r 0 ld pl li tl (mvI ld mo k) mn) (cwV 0 hts gX3_swing_X3_moved rfl rfl rfl (by decide +kernel) ⟨Nat.le_of_ble_eq_true rfl, Nat.le_of_ble_eq_true rfl⟩) ⟨cP_blind, va_recv hKc hPc (ci := 3) (q0 := 0) rfl rfl, cP_of hPc hKc hDc (kE_at hE0 hAL hS)⟩ rfl rfl hl.1 rfl (lv_room (Nat.le_of_ble_eq_true rfl)) dX3_swing_74 ⟨Nat.le_of_ble_eq_true rfl, Nat.le_of_ble_eq_true rfl⟩) hS (fun z9 _ ⟨k9, e9, h9⟩ => (hD.sub (ws' := [(mm, .inr (3, [.int 0, .int (nI (swX (decide (¬ u = 0)) dk)), .int (nI r), .int ld, .int pl, .ref ao, .ref al, .int li, .int tl, .int (mvI ld mo k), .ref aw, .ref aq, .int mn]))]) [0] (by decide) rfl).2 k9 (z9, e9) h9) (fun z9 ⟨k9, e9, h9⟩ => (hD.sub (ws' := [(mm, .inr (3, [.int 0, .int (nI (swX (decide (¬ u = 0)) dk)), .int (nI r), .int ld, .int pl, .ref ao, .ref al, .int li, .int tl, .int (mvI ld mo k), .ref aw, .ref aq, .int mn]))]) [0] (by decide) rfl).2 k9 (z9, e9) h9) (fun H1 locs hB hz1 hk1 hS => ?_)
            obtain ⟨hP, hD⟩ := c_join (ws' := [(mm, .inr (3, [.int 0, .int (nI (swX (decide (¬ u = 0)) dk)), .int (nI r), .int ld, .int pl, .ref ao, .ref al, .int li, .int tl, .int (mvI ld mo k + (if 0 < ld then 1 else 0)), .ref aw, .ref aq, .int mn])), (ao, .inl (cI, 4, .inl fo)), (al, .inl (cI, 31, .inl fl))]) (wr := [(ao, .inl (cI, 4, .inl fo)), (al, .inl (cI, 31, .inl fl))]) (w1 := [(mm, .inr (3, [.int 0, .int (nI (swX (decide (¬ u = 0)) dk)), .int (nI r), .int ld, .int pl, .ref ao, .ref al, .int li, .int tl, .int (mvI ld mo k + (if 0 < ld then 1 else 0)), .ref aw, .ref aq, .int mn]))]) hP hD [0] [1, 2] [2, 0, 1] rfl rfl (by decide) (by decide) hk1 hB rfl rfl rfl (by decide)
            generalize H1 = H at hP hS ⊢
            show W _ _ _ _ _ _ _ _ _ _ _ _ _ _ _ (F0 m 77 ls [])
            rw [mvI_s] at hP hD
            have hP : va_P D vwCl [(mm, .inr (3, [.int 0, .int (nI (swX (decide (¬ u = 0)) dk)), .int (nI r), .int ld, .int pl, .ref ao, .ref al, .int li, .int tl, .int (mvI ld mo (k + 1)), .ref aw, .ref aq, .int mn])), (ao, .inl (cI, 4, .inl fo)), (al, .inl (cI, 31, .inl fl))] H := hP
            have hD : va_D A [(mm, .inr (3, [.int 0, .int (nI (swX (decide (¬ u = 0)) dk)), .int (nI r), .int ld, .int pl, .ref ao, .ref al, .int li, .int tl, .int (mvI ld mo (k + 1)), .ref aw, .ref aq, .int mn])), (ao, .inl (cI, 4, .inl fo)), (al, .inl (cI, 31, .inl fl))] := hD
            refine lv_iinc (v := (nI k) + 1) (lv' := [(3, .int ((nI k) + 1)), (4, .int (nI (swX (decide (¬ u = 0)) dk))), (0, .ref mm), (1, .int (nI kv)), (2, .int u)]) hx hb dX3_swing_77 hl (k := 1) rfl rfl (by decide) rfl (fun ls hl => ?_)
            refine lv_goto (tgt := 23) hx hb dX3_swing_80 (by decide) ?_
            have hl : lv_has ls 5 [(3, .int (nI (k + 1))), (4, .int (nI (swX (decide (¬ u = 0)) dk))), (0, .ref mm), (1, .int (nI kv)), (2, .int u)] := (show (nI k) + 1 = nI (k + 1) from nI_1 k) ▸ hl
            exact ih (k + 1) (swX (decide (¬ u = 0)) dk) _ _ _ (by omega) swX_lt (by rw [swN, if_pos hs] at hG; exact ⟨by rw [← hG.1]; exact (Nat.add_right_comm k 1 _).trans (Nat.add_assoc k _ 1), hG.2⟩) (lv_sub hl [0, 2, 3, 4] rfl) hP hD hS
          · have hs : safS fo fl pl ld (swX (decide (¬ u = 0)) dk) r = false := by rw [← hbv_46]; cases b_45 with | false => rfl | true => exact absurd c_47 (by decide)
            have hG1 : (swN (fun k => safS fo fl pl ld k r) (decide (¬ u = 0)) v.toNatClampNeg d).1 = k := by rw [← hG.1, swN, if_neg (by rw [hs]; decide)]; rfl
            have hG2 : (swN (fun k => safS fo fl pl ld k r) (decide (¬ u = 0)) v.toNatClampNeg d).2 = dk := by rw [← hG.2, swN, if_neg (by rw [hs]; decide)]
            refine lv_iload_n hx hb dX3_swing_65 rfl (lv_at hl 1 rfl) ?_
            unfold mvI at hP
            rw [← hG2] at hP
            rw [← hG1] at hP
            have hK1 : k1 (inR v 1 8) = 0 := k1_yes hp
            exact W.iret (v := (nI k)) hx hb hRt (fun t ht hW => ⟨⟨by simp only [if_pos hK1]; rw [hG1], by rw [ht]; exact (by simp only [if_pos hK1]; rw [hK1]; exact hP)⟩, hS.F ht⟩) hS.2.2 dX3_swing_66
    refine lv_iconst (v := 0) hx hb dX3_swing_21 (by decide) ?_
    refine lv_istore_n (lv' := [(3, .int 0), (0, .ref mm), (1, .int (nI kv)), (2, .int u)]) hx hb dX3_swing_22 rfl hl (by decide) rfl (fun ls hl => ?_)
    have hl : lv_has ls 5 [(3, .int (nI 0)), (0, .ref mm), (1, .int (nI kv)), (2, .int u)] := (show 0 = nI 0 from rfl) ▸ hl
    rw [← mvI_0 ld mo] at hP hD
    have hP : va_P D vwCl [(mm, .inr (3, [.int 0, .int (nI d), .int (nI r), .int ld, .int pl, .ref ao, .ref al, .int li, .int tl, .int (mvI ld mo 0), .ref aw, .ref aq, .int mn])), (ao, .inl (cI, 4, .inl fo)), (al, .inl (cI, 31, .inl fl))] H := hP
    have hD : va_D A [(mm, .inr (3, [.int 0, .int (nI d), .int (nI r), .int ld, .int pl, .ref ao, .ref al, .int li, .int tl, .int (mvI ld mo 0), .ref aw, .ref aq, .int mn])), (ao, .inl (cI, 4, .inl fo)), (al, .inl (cI, 31, .inl fl))] := hD
    exact loop kv 0 d _ _ _ (by omega) hd (by rw [hvn]; exact ⟨Nat.zero_add _, rfl⟩) (lv_sub hl [0, 1, 2, 3] rfl) hP hD hS
  · have hn : ¬ (inR v 1 8) := fun hp => absurd c_38 (by rw [hbv_37]; simp [hp.1, hp.2, bI])
    refine lv_aload_n hx hb dX3_swing_15 rfl (lv_at hl 0 rfl) ?_
    refine lv_iconst (v := 1) hx hb dX3_swing_16 (by decide) ?_
    have hPc := hP.sub (ws' := [(mm, .inr (3, [.int 0, .int (nI d), .int (nI r), .int ld, .int pl, .ref ao, .ref al, .int li, .int tl, .int mo, .ref aw, .ref aq, .int mn]))]) [0] rfl
    have hDc : va_D (fun q : Nat => L0 ≤ q) [(mm, .inr (3, [.int 0, .int (nI d), .int (nI r), .int ld, .int pl, .ref ao, .ref al, .int li, .int tl, .int mo, .ref aw, .ref aq, .int mn]))] := (hD.sub (ws' := [(mm, .inr (3, [.int 0, .int (nI d), .int (nI r), .int ld, .int pl, .ref ao, .ref al, .int li, .int tl, .int mo, .ref aw, .ref aq, .int mn]))]) [0] (by decide) rfl).weaken (fun _ z9 _ h9 => hAL _ h9)
    have hKc := hK.sub (tys' := []) [] rfl
    refine c_callB (va_runV (As := [.int 1]) (rest := []) ⟨hx, hb, hml, hown, hts⟩ (q_no l D L0 mm ao al aw aq d r 0 ld pl li tl mo mn 1) (cwV 1 hts gX3_swing_X3_no rfl rfl rfl (by decide +kernel) ⟨Nat.le_of_ble_eq_true rfl, Nat.le_of_ble_eq_true rfl⟩) ⟨cP_blind, va_recv hKc hPc (ci := 3) (q0 := 0) rfl rfl, cP_of hPc hKc hDc (kE_at hE0 hAL hS)⟩ rfl rfl hl.1 rfl (lv_room (Nat.le_of_ble_eq_true rfl)) dX3_swing_17 ⟨Nat.le_of_ble_eq_true rfl, Nat.le_of_ble_eq_true rfl⟩) hS (fun z9 _ ⟨k9, e9, h9⟩ => (hD.sub (ws' := [(mm, .inr (3, [.int 0, .int (nI d), .int (nI r), .int ld, .int pl, .ref ao, .ref al, .int li, .int tl, .int mo, .ref aw, .ref aq, .int mn]))]) [0] (by decide) rfl).2 k9 (z9, e9) h9) (fun z9 ⟨k9, e9, h9⟩ => (hD.sub (ws' := [(mm, .inr (3, [.int 0, .int (nI d), .int (nI r), .int ld, .int pl, .ref ao, .ref al, .int li, .int tl, .int mo, .ref aw, .ref aq, .int mn]))]) [0] (by decide) rfl).2 k9 (z9, e9) h9) (fun H1 locs hB hz1 hk1 hS => ?_)
    obtain ⟨hP, hD⟩ := c_join (ws' := [(mm, .inr (3, [.int 1, .int (nI d), .int (nI r), .int ld, .int pl, .ref ao, .ref al, .int li, .int tl, .int mo, .ref aw, .ref aq, .int mn])), (ao, .inl (cI, 4, .inl fo)), (al, .inl (cI, 31, .inl fl))]) (wr := [(ao, .inl (cI, 4, .inl fo)), (al, .inl (cI, 31, .inl fl))]) (w1 := [(mm, .inr (3, [.int 1, .int (nI d), .int (nI r), .int ld, .int pl, .ref ao, .ref al, .int li, .int tl, .int mo, .ref aw, .ref aq, .int mn]))]) hP hD [0] [1, 2] [2, 0, 1] rfl rfl (by decide) (by decide) hk1 hB rfl rfl rfl (by decide)
    generalize H1 = H at hP hS ⊢
    show W _ _ _ _ _ _ _ _ _ _ _ _ _ _ _ (F0 m 20 ls [.int 0])
    have hK1 : k1 (inR v 1 8) = 1 := k1_no hn
    have hKn : ¬ k1 (inR v 1 8) = 0 := by rw [hK1]; decide
    exact W.iret (v := 0) hx hb hRt (fun t ht hW => ⟨⟨by simp only [if_neg hKn], by rw [ht]; exact (by simp only [if_neg hKn]; rw [hK1]; exact hP)⟩, hS.F ht⟩) hS.2.2 dX3_swing_20
set_option maxHeartbeats 4000000 in
set_option maxRecDepth 100000 in
/-- stretch -/
theorem q_stretch (l : Launch) (D : va_G) (L0 : Nat) (cI : ClassId) (mm ao al aw aq d r : Nat) (th ld pl li tl mo mn : Int32) (fo fl : Nat → Int32) (v u : Int32) (hd : d < 8) (hr : 3 ≤ r ∧ r ≤ 30) : Met l yX3_stretch wsX3_stretch ({ frames := 3, cells := 0, slots := 0, locals := 81 }) (cP L0 D [(cI, .int)] [(mm, .inr (3, [.int th, .int (nI d), .int (nI r), .int ld, .int pl, .ref ao, .ref al, .int li, .int tl, .int mo, .ref aw, .ref aq, .int mn])), (ao, .inl (cI, 4, .inl fo)), (al, .inl (cI, 31, .inl fl))] [.ref mm, .int v, .int u]) (cB (some (.int (if k1 (inR v 1 30) = 0 then nI (stN (fun k => safS fo fl pl ld d k) (decide (¬ u = 0)) v.toNatClampNeg r).1 else 0))) (fun H => va_P D vwCl [(mm, .inr (3, [.int (k1 (inR v 1 30)), .int (nI d), .int (nI (if k1 (inR v 1 30) = 0 then (stN (fun k => safS fo fl pl ld d k) (decide (¬ u = 0)) v.toNatClampNeg r).2 else r)), .int ld, .int pl, .ref ao, .ref al, .int li, .int tl, .int (if k1 (inR v 1 30) = 0 then (if 0 < ld then mo + nI (stN (fun k => safS fo fl pl ld d k) (decide (¬ u = 0)) v.toNatClampNeg r).1 else mo) else mo), .ref aw, .ref aq, .int mn])), (ao, .inl (cI, 4, .inl fo)), (al, .inl (cI, 31, .inl fl))] H) (cA [(mm, .inr (3, [.int th, .int (nI d), .int (nI r), .int ld, .int pl, .ref ao, .ref al, .int li, .int tl, .int mo, .ref aw, .ref aq, .int mn])), (ao, .inl (cI, 4, .inl fo)), (al, .inl (cI, 31, .inl fl))])) 0 0 (cA [(mm, .inr (3, [.int th, .int (nI d), .int (nI r), .int ld, .int pl, .ref ao, .ref al, .int li, .int tl, .int mo, .ref aw, .ref aq, .int mn])), (ao, .inl (cI, 4, .inl fo)), (al, .inl (cI, 31, .inl fl))]) := by
  refine Met.ofW (cc := cX3_stretch) (maxL := 5) (ret := (some .int)) (by decide) rfl ?_
  intro p e s m args below meth c s₁ B hml hv
  obtain ⟨rfl, hP, hK, hD0, hE0⟩ := hv
  have hx := B.exec
  have hb := B.bytes
  have hRt := B.returns
  have hts := atoms_spec (ws := wsX3_stretch) B.pre
  have hown : s.vm.findClass RX3 = some m.cls := findClass_of_methodNamed B.named
  have hlocks := B.notSynchronized
  have hAL : ∀ z9 : Nat, cA [(mm, .inr (3, [.int th, .int (nI d), .int (nI r), .int ld, .int pl, .ref ao, .ref al, .int li, .int tl, .int mo, .ref aw, .ref aq, .int mn])), (ao, .inl (cI, 4, .inl fo)), (al, .inl (cI, 31, .inl fl))] z9 → L0 ≤ z9 := fun z9 ⟨k9, e9, h9⟩ => hD0.2 k9 (z9, e9) h9
  have hD : va_D (cA [(mm, .inr (3, [.int th, .int (nI d), .int (nI r), .int ld, .int pl, .ref ao, .ref al, .int li, .int tl, .int mo, .ref aw, .ref aq, .int mn])), (ao, .inl (cI, 4, .inl fo)), (al, .inl (cI, 31, .inl fl))]) [(mm, .inr (3, [.int th, .int (nI d), .int (nI r), .int ld, .int pl, .ref ao, .ref al, .int li, .int tl, .int mo, .ref aw, .ref aq, .int mn])), (ao, .inl (cI, 4, .inl fo)), (al, .inl (cI, 31, .inl fl))] := ⟨hD0.1, fun k9 z9 h9 => cA_of h9⟩
  generalize hAe : cA [(mm, .inr (3, [.int th, .int (nI d), .int (nI r), .int ld, .int pl, .ref ao, .ref al, .int li, .int tl, .int mo, .ref aw, .ref aq, .int mn])), (ao, .inl (cI, 4, .inl fo)), (al, .inl (cI, 31, .inl fl))] = A at hD hAL ⊢
  have hS : va_S A s.heap s.heap [] := va_S.rf
  have hiX3 : ∀ w ∈ u_ws RX3 TX3 13, w ∈ wsX3_stretch := by decide +kernel
  have hl := lv_entry ([.ref mm, .int v, .int u]) (n := 5) (Nat.le_of_ble_eq_true rfl)
  rw [lg_entry_eq]
  generalize (lg_sl ([.ref mm, .int v, .int u]) ++ List.replicate (5 - (lg_sl ([.ref mm, .int v, .int u])).length) Slot.unset).toArray = ls at hl ⊢
  have hl : lv_has ls 5 [(0, .ref mm), (1, .int v), (2, .int u)] := hl
  refine lv_aload_n hx hb dX3_stretch_0 rfl (lv_at hl 0 rfl) ?_
  refine lv_iconst (v := 0) hx hb dX3_stretch_1 (by decide) ?_
  refine va_put (D := D) (ci := 3) (v := .int 0) (ty := .int) (C := RX3) (T := TX3) (N := 13) hx hb hts hiX3 tyX3 tyX3_ok nmX3 hown hK hP hD hS 0 rfl rfl 0 (by decide) (hts (.fieldLink RX3 26 "CraneReachModel" "thrown" "I") (by decide +kernel)) (fun _ h9 => h9) rfl (by decide +kernel) rfl rfl (Nat.le_of_ble_eq_true rfl) dX3_stretch_2 (fun H locs hP hD hS => ?_)
  have hP : va_P D vwCl [(mm, .inr (3, [.int 0, .int (nI d), .int (nI r), .int ld, .int pl, .ref ao, .ref al, .int li, .int tl, .int mo, .ref aw, .ref aq, .int mn])), (ao, .inl (cI, 4, .inl fo)), (al, .inl (cI, 31, .inl fl))] H := hP
  have hD : va_D A [(mm, .inr (3, [.int 0, .int (nI d), .int (nI r), .int ld, .int pl, .ref ao, .ref al, .int li, .int tl, .int mo, .ref aw, .ref aq, .int mn])), (ao, .inl (cI, 4, .inl fo)), (al, .inl (cI, 31, .inl fl))] := hD
  refine lv_iload_n hx hb dX3_stretch_5 rfl (lv_at hl 1 rfl) ?_
  refine lv_iconst (v := 1) hx hb dX3_stretch_6 (by decide) ?_
  refine lv_bipush (v := 30) hx hb dX3_stretch_7 (by decide) ?_
  have hPc := hP.sub (ws' := []) [] rfl
  have hDc : va_D (fun q : Nat => L0 ≤ q) [] := (hD.sub (ws' := []) [] (by decide) rfl).weaken (fun _ z9 _ h9 => hAL _ h9)
  have hKc := hK.sub (tys' := []) [] rfl
  refine c_callR (va_runS (As := [.int v, .int 1, .int 30]) (rest := []) ⟨hx, hb, hml, hown, hts⟩ (q_isIn l D L0 v 1 30) (va_cwS 3 hts gX3_stretch_X3_isIn rfl rfl rfl (by decide +kernel) ⟨Nat.le_of_ble_eq_true rfl, Nat.le_of_ble_eq_true rfl⟩) ⟨cP_blind, cP_of hPc hKc hDc (kE_at hE0 hAL hS)⟩ rfl rfl hl.1 rfl (lv_room (Nat.le_of_ble_eq_true rfl)) dX3_stretch_9 ⟨Nat.le_of_ble_eq_true rfl, Nat.le_of_ble_eq_true rfl⟩) ?_
  show W _ _ _ _ _ _ _ _ _ _ _ _ _ _ _ (F0 m 12 ls [.int (bI (decide (1 ≤ v) && decide (v ≤ 30)))])
  obtain ⟨b_48, hbv_49⟩ : ∃ z9 : Bool, z9 = (decide (1 ≤ v) && decide (v ≤ 30)) := ⟨_, rfl⟩
  refine c_top (show (bI (decide (1 ≤ v) && decide (v ≤ 30))) = bI b_48 from by rw [hbv_49]) ?_
  refine lv_if_ne (tgt := 21) hx hb dX3_stretch_12 (by decide) (fun c_50 => ?_) (fun c_50 => ?_)
  · have hp : inR v 1 30 := by cases b_48 with | true => simpa using hbv_49.symm | false => exact absurd rfl c_50
    obtain ⟨kv, hkv, hv⟩ := inR_n1 (n := 30) (by decide) hp
    have hl : lv_has ls 5 [(0, .ref mm), (1, .int (nI kv)), (2, .int u)] := (show v = nI kv from hv) ▸ hl
    have hvn : v.toNatClampNeg = kv := by rw [hv, nI_clamp (by omega)]
    have loop : ∀ (n : Nat) (k : Nat) (dk : Nat) (H : Heap) (locs : List Loc) (ls : Array Slot), k + n = kv → (3 ≤ dk ∧ dk ≤ 30) → (k + (stN (fun k => safS fo fl pl ld d k) (decide (¬ u = 0)) n dk).1 = (stN (fun k => safS fo fl pl ld d k) (decide (¬ u = 0)) v.toNatClampNeg r).1 ∧ (stN (fun k => safS fo fl pl ld d k) (decide (¬ u = 0)) n dk).2 = (stN (fun k => safS fo fl pl ld d k) (decide (¬ u = 0)) v.toNatClampNeg r).2) → lv_has ls 5 [(3, .int (nI k)), (0, .ref mm), (1, .int (nI kv)), (2, .int u)] → va_P D vwCl [(mm, .inr (3, [.int 0, .int (nI d), .int (nI dk), .int ld, .int pl, .ref ao, .ref al, .int li, .int tl, .int (mvI ld mo k), .ref aw, .ref aq, .int mn])), (ao, .inl (cI, 4, .inl fo)), (al, .inl (cI, 31, .inl fl))] H → va_D A [(mm, .inr (3, [.int 0, .int (nI d), .int (nI dk), .int ld, .int pl, .ref ao, .ref al, .int li, .int tl, .int (mvI ld mo k), .ref aw, .ref aq, .int mn])), (ao, .inl (cI, 4, .inl fo)), (al, .inl (cI, 31, .inl fl))] → va_S A s.heap H locs → W p l e (headSpec wsX3_stretch ({ frames := 3, cells := 0, slots := 0, locals := 81 })).room s m ([.ref mm, .int v, .int u]).toArray below meth c H locs 0 0 (MQ below (cB (some (.int (if k1 (inR v 1 30) = 0 then nI (stN (fun k => safS fo fl pl ld d k) (decide (¬ u = 0)) v.toNatClampNeg r).1 else 0))) (fun H => va_P D vwCl [(mm, .inr (3, [.int (k1 (inR v 1 30)), .int (nI d), .int (nI (if k1 (inR v 1 30) = 0 then (stN (fun k => safS fo fl pl ld d k) (decide (¬ u = 0)) v.toNatClampNeg r).2 else r)), .int ld, .int pl, .ref ao, .ref al, .int li, .int tl, .int (if k1 (inR v 1 30) = 0 then (if 0 < ld then mo + nI (stN (fun k => safS fo fl pl ld d k) (decide (¬ u = 0)) v.toNatClampNeg r).1 else mo) else mo), .ref aw, .ref aq, .int mn])), (ao, .inl (cI, 4, .inl fo)), (al, .inl (cI, 31, .inl fl))] H) A) ([.ref mm, .int v, .int u]).toArray s 0 0 A) (F0 m 23 ls []) := by
      intro n
      induction n with
      | zero =>
        intro k dk H locs ls hn hdk hG hl hP hD hS
        have hG1 : (stN (fun k => safS fo fl pl ld d k) (decide (¬ u = 0)) v.toNatClampNeg r).1 = k := by rw [← hG.1]; rfl
        have hG2 : (stN (fun k => safS fo fl pl ld d k) (decide (¬ u = 0)) v.toNatClampNeg r).2 = dk := by rw [← hG.2]; rfl
        refine lv_iload_n hx hb dX3_stretch_23 rfl (lv_at hl 0 rfl) ?_
        refine lv_iload_n hx hb dX3_stretch_24 rfl (lv_at hl 2 rfl) ?_
        refine lv_icmp_ge (tgt := 87) hx hb dX3_stretch_25 (by decide) (fun _ => ?_) (fun c_51 => absurd (by rw [show k = kv by omega]; exact Int32.le_refl _) c_51)
        refine lv_iload_n hx hb dX3_stretch_87 rfl (lv_at hl 2 rfl) ?_
        unfold mvI at hP
        rw [← hG2] at hP
        rw [← hG1] at hP
        have hK1 : k1 (inR v 1 30) = 0 := k1_yes hp
        exact W.iret (v := (nI kv)) hx hb hRt (fun t ht hW => ⟨⟨by simp only [if_pos hK1]; rw [hG1, show k = kv by omega], by rw [ht]; exact (by simp only [if_pos hK1]; rw [hK1]; exact hP)⟩, hS.F ht⟩) hS.2.2 dX3_stretch_88
      | succ n ih =>
        intro k dk H locs ls hn hdk hG hl hP hD hS
        refine lv_iload_n hx hb dX3_stretch_23 rfl (lv_at hl 0 rfl) ?_
        refine lv_iload_n hx hb dX3_stretch_24 rfl (lv_at hl 2 rfl) ?_
        refine lv_icmp_ge (tgt := 87) hx hb dX3_stretch_25 (by decide) (fun c_52 => absurd c_52 (nI_ge (by omega) (by omega))) (fun _ => ?_)
        refine lv_aload_n hx hb dX3_stretch_28 rfl (lv_at hl 1 rfl) ?_
        refine va_get (D := D) (ci := 3) (v := .int (nI dk)) (C := RX3) (T := TX3) (N := 13) hx hb hts hiX3 hown hK hP 0 rfl rfl 2 (by decide) (hts (.fieldLink RX3 9 "CraneReachModel" "reach" "I") (by decide +kernel)) (fun _ h9 => h9) rfl dX3_stretch_29 ?_
        refine lv_iload_n hx hb dX3_stretch_32 rfl (lv_at hl 3 rfl) ?_
        refine lv_if_eq (tgt := 40) hx hb dX3_stretch_33 (by decide) (fun c_53 => ?_) (fun c_53 => ?_)
        · refine lv_iconst (v := -1) hx hb dX3_stretch_40 (by decide) ?_
          refine lv_iadd hx hb dX3_stretch_41 ?_
          refine c_top (show ((nI dk) + (-1)) = nI (stX (decide (¬ u = 0)) dk) from by rw [show (decide (¬ u = 0)) = false from by simp [c_53], show nI dk + (-1) = nI (dk - 1) from by have h := pk_m1 (dk - 1); rw [Nat.sub_add_cancel (by omega)] at h; exact h]; rfl) ?_
          have hxl : stX (decide (¬ u = 0)) dk < 100 := by unfold stX; split <;> omega
          refine lv_istore (lv' := [(4, .int (nI (stX (decide (¬ u = 0)) dk))), (3, .int (nI k)), (0, .ref mm), (1, .int (nI kv)), (2, .int u)]) hx hb dX3_stretch_42 hl (by decide) rfl (fun ls hl => ?_)
          refine lv_iload hx hb dX3_stretch_44 (lv_at hl 0 rfl) ?_
          have hPc := hP.sub (ws' := []) [] rfl
          have hDc : va_D (fun q : Nat => L0 ≤ q) [] := (hD.sub (ws' := []) [] (by decide) rfl).weaken (fun _ z9 _ h9 => hAL _ h9)
          have hKc := hK.sub (tys' := []) [] rfl
          refine c_callR (va_runS (As := [.int (nI (stX (decide (¬ u = 0)) dk))]) (rest := []) ⟨hx, hb, hml, hown, hts⟩ (q_isReach l D L0 (nI (stX (decide (¬ u = 0)) dk))) (va_cwS 1 hts gX3_stretch_X3_isReach rfl rfl rfl (by decide +kernel) ⟨Nat.le_of_ble_eq_true rfl, Nat.le_of_ble_eq_true rfl⟩) ⟨cP_blind, cP_of hPc hKc hDc (kE_at hE0 hAL hS)⟩ rfl rfl hl.1 rfl (lv_room (Nat.le_of_ble_eq_true rfl)) dX3_stretch_46 ⟨Nat.le_of_ble_eq_true rfl, Nat.le_of_ble_eq_true rfl⟩) ?_
          show W _ _ _ _ _ _ _ _ _ _ _ _ _ _ _ (F0 m 49 ls [.int (bI (decide (3 ≤ nI (stX (decide (¬ u = 0)) dk)) && decide (nI (stX (decide (¬ u = 0)) dk) ≤ 30)))])
          by_cases cr : 3 ≤ stX (decide (¬ u = 0)) dk ∧ stX (decide (¬ u = 0)) dk ≤ 30
          · refine c_top (show (bI (decide (3 ≤ nI (stX (decide (¬ u = 0)) dk)) && decide (nI (stX (decide (¬ u = 0)) dk) ≤ 30))) = 1 from isR_yes cr) ?_
            refine lv_if_eq (tgt := 69) hx hb dX3_stretch_49 (by decide) (fun c_55 => absurd c_55 (by decide)) (fun _ => ?_)
            refine lv_aload_n hx hb dX3_stretch_52 rfl (lv_at hl 2 rfl) ?_
            refine lv_aload_n hx hb dX3_stretch_53 rfl (lv_at hl 2 rfl) ?_
            refine va_get (D := D) (ci := 3) (v := .int ld) (C := RX3) (T := TX3) (N := 13) hx hb hts hiX3 hown hK hP 0 rfl rfl 3 (by decide) (hts (.fieldLink RX3 53 "CraneReachModel" "load" "I") (by decide +kernel)) (fun _ h9 => h9) rfl dX3_stretch_54 ?_
            refine lv_aload_n hx hb dX3_stretch_57 rfl (lv_at hl 2 rfl) ?_
            refine va_get (D := D) (ci := 3) (v := .int (nI d)) (C := RX3) (T := TX3) (N := 13) hx hb hts hiX3 hown hK hP 0 rfl rfl 1 (by decide) (hts (.fieldLink RX3 56 "CraneReachModel" "direction" "I") (by decide +kernel)) (fun _ h9 => h9) rfl dX3_stretch_58 ?_
            refine lv_iload hx hb dX3_stretch_61 (lv_at hl 0 rfl) ?_
            have hPc := hP.sub (ws' := [(mm, .inr (3, [.int 0, .int (nI d), .int (nI dk), .int ld, .int pl, .ref ao, .ref al, .int li, .int tl, .int (mvI ld mo k), .ref aw, .ref aq, .int mn])), (ao, .inl (cI, 4, .inl fo)), (al, .inl (cI, 31, .inl fl))]) [0, 1, 2] rfl
            have hDc : va_D (fun q : Nat => L0 ≤ q) [(mm, .inr (3, [.int 0, .int (nI d), .int (nI dk), .int ld, .int pl, .ref ao, .ref al, .int li, .int tl, .int (mvI ld mo k), .ref aw, .ref aq, .int mn])), (ao, .inl (cI, 4, .inl fo)), (al, .inl (cI, 31, .inl fl))] := (hD.sub (ws' := [(mm, .inr (3, [.int 0, .int (nI d), .int (nI dk), .int ld, .int pl, .ref ao, .ref al, .int li, .int tl, .int (mvI ld mo k), .ref aw, .ref aq, .int mn])), (ao, .inl (cI, 4, .inl fo)), (al, .inl (cI, 31, .inl fl))]) [0, 1, 2] (by decide) rfl).weaken (fun _ z9 _ h9 => hAL _ h9)
            have hKc := hK.sub (tys' := [(cI, .int)]) [0] rfl
            refine c_callR (va_runV (As := [.int ld, .int (nI d), .int (nI (stX (decide (¬ u = 0)) dk))]) (rest := []) ⟨hx, hb, hml, hown, hts⟩ (q_isSafe l D L0 cI mm ao al aw aq d dk 0 ld pl li tl (mvI ld mo k) mn fo fl d (stX (decide (¬ u = 0)) dk) ld hd cr) (cwV 3 hts gX3_stretch_X3_isSafe rfl rfl rfl (by decide +kernel) ⟨Nat.le_of_ble_eq_true rfl, Nat.le_of_ble_eq_true rfl⟩) ⟨cP_blind, va_recv hKc hPc (ci := 3) (q0 := 0) rfl rfl, cP_of hPc hKc hDc (kE_at hE0 hAL hS)⟩ rfl rfl hl.1 rfl (lv_room (Nat.le_of_ble_eq_true rfl)) dX3_stretch_63 ⟨Nat.le_of_ble_eq_true rfl, Nat.le_of_ble_eq_true rfl⟩) ?_
            show W _ _ _ _ _ _ _ _ _ _ _ _ _ _ _ (F0 m 66 ls [.int (bI (safS fo fl pl ld d (stX (decide (¬ u = 0)) dk)))])
            obtain ⟨b_56, hbv_57⟩ : ∃ z9 : Bool, z9 = safS fo fl pl ld d (stX (decide (¬ u = 0)) dk) := ⟨_, rfl⟩
            refine c_top (show (bI (safS fo fl pl ld d (stX (decide (¬ u = 0)) dk))) = bI b_56 from by rw [hbv_57]) ?_
            refine lv_if_ne (tgt := 71) hx hb dX3_stretch_66 (by decide) (fun c_58 => ?_) (fun c_58 => ?_)
            · have hs : safS fo fl pl ld d (stX (decide (¬ u = 0)) dk) = true := by rw [← hbv_57]; cases b_56 with | true => rfl | false => exact absurd rfl c_58
              refine lv_aload_n hx hb dX3_stretch_71 rfl (lv_at hl 2 rfl) ?_
              refine lv_iload hx hb dX3_stretch_72 (lv_at hl 0 rfl) ?_
              refine va_put (D := D) (ci := 3) (v := .int (nI (stX (decide (¬ u = 0)) dk))) (ty := .int) (C := RX3) (T := TX3) (N := 13) hx hb hts hiX3 tyX3 tyX3_ok nmX3 hown hK hP hD hS 0 rfl rfl 2 (by decide) (hts (.fieldLink RX3 9 "CraneReachModel" "reach" "I") (by decide +kernel)) (fun _ h9 => h9) rfl (by decide +kernel) rfl rfl (Nat.le_of_ble_eq_true rfl) dX3_stretch_74 (fun H locs hP hD hS => ?_)
              have hP : va_P D vwCl [(mm, .inr (3, [.int 0, .int (nI d), .int (nI (stX (decide (¬ u = 0)) dk)), .int ld, .int pl, .ref ao, .ref al, .int li, .int tl, .int (mvI ld mo k), .ref aw, .ref aq, .int mn])), (ao, .inl (cI, 4, .inl fo)), (al, .inl (cI, 31, .inl fl))] H := hP
              have hD : va_D A [(mm, .inr (3, [.int 0, .int (nI d), .int (nI (stX (decide (¬ u = 0)) dk)), .int ld, .int pl, .ref ao, .ref al, .int li, .int tl, .int (mvI ld mo k), .ref aw, .ref aq, .int mn])), (ao, .inl (cI, 4, .inl fo)), (al, .inl (cI, 31, .inl fl))] := hD
              refine lv_aload_n hx hb dX3_stretch_77 rfl (lv_at hl 2 rfl) ?_
              have hPc := hP.sub (ws' := [(mm, .inr (3, [.int 0, .int (nI d), .int (nI (stX (decide (¬ u = 0)) dk)), .int ld, .int pl, .ref ao, .ref al, .int li, .int tl, .int (mvI ld mo k), .ref aw, .ref aq, .int mn]))]) [0] rfl
              have hDc : va_D (fun q : Nat => L0 ≤ q) [(mm, .inr (3, [.int 0, .int (nI d), .int (nI (stX (decide (¬ u = 0)) dk)), .int ld, .int pl, .ref ao, .ref al, .int li, .int tl, .int (mvI ld mo k), .ref aw, .ref aq, .int mn]))] := (hD.sub (ws' := [(mm, .inr (3, [.int 0, .int (nI d), .int (nI (stX (decide (¬ u = 0)) dk)), .int ld, .int pl, .ref ao, .ref al, .int li, .int tl, .int (mvI ld mo k), .ref aw, .ref aq, .int mn]))]) [0] (by decide) rfl).weaken (fun _ z9 _ h9 => hAL _ h9)
              have hKc := hK.sub (tys' := []) [] rfl
              refine c_callB (va_runV (As := []) (rest := []) ⟨hx, hb, hml, hown, hts⟩ (q_moved l D L0 mm ao al aw aq d (stX (decide (¬ u = 0)) dk) 0 ld pl li tl (mvI ld mo k) mn) (cwV 0 hts gX3_stretch_X3_moved rfl rfl rfl (by decide +kernel) ⟨Nat.le_of_ble_eq_true rfl, Nat.le_of_ble_eq_true rfl⟩) ⟨cP_blind, va_recv hKc hPc (ci := 3) (q0 := 0) rfl rfl, cP_of hPc hKc hDc (kE_at hE0 hAL hS)⟩ rfl rfl hl.1 rfl (lv_room (Nat.le_of_ble_eq_true rfl)) dX3_stretch_78 ⟨Nat.le_of_ble_eq_true rfl, Nat.le_of_ble_eq_true rfl⟩) hS (fun z9 _ ⟨k9, e9, h9⟩ => (hD.sub (ws' := [(mm, .inr (3, [.int 0, .int (nI d), .int (nI (stX (decide (¬ u = 0)) dk)), .int ld, .int pl, .ref ao, .ref al, .int li, .int tl, .int (mvI ld mo k), .ref aw, .ref aq, .int mn]))]) [0] (by decide) rfl).2 k9 (z9, e9) h9) (fun z9 ⟨k9, e9, h9⟩ => (hD.sub (ws' := [(mm, .inr (3, [.int 0, .int (nI d), .int (nI (stX (decide (¬ u = 0)) dk)), .int ld, .int pl, .ref ao, .ref al, .int li, .int tl, .int (mvI ld mo k), .ref aw, .ref aq, .int mn]))]) [0] (by decide) rfl).2 k9 (z9, e9) h9) (fun H1 locs hB hz1 hk1 hS => ?_)
              obtain ⟨hP, hD⟩ := c_join (ws' := [(mm, .inr (3, [.int 0, .int (nI d), .int (nI (stX (decide (¬ u = 0)) dk)), .int ld, .int pl, .ref ao, .ref al, .int li, .int tl, .int (mvI ld mo k + (if 0 < ld then 1 else 0)), .ref aw, .ref aq, .int mn])), (ao, .inl (cI, 4, .inl fo)), (al, .inl (cI, 31, .inl fl))]) (wr := [(ao, .inl (cI, 4, .inl fo)), (al, .inl (cI, 31, .inl fl))]) (w1 := [(mm, .inr (3, [.int 0, .int (nI d), .int (nI (stX (decide (¬ u = 0)) dk)), .int ld, .int pl, .ref ao, .ref al, .int li, .int tl, .int (mvI ld mo k + (if 0 < ld then 1 else 0)), .ref aw, .ref aq, .int mn]))]) hP hD [0] [1, 2] [2, 0, 1] rfl rfl (by decide) (by decide) hk1 hB rfl rfl rfl (by decide)
              generalize H1 = H at hP hS ⊢
              show W _ _ _ _ _ _ _ _ _ _ _ _ _ _ _ (F0 m 81 ls [])
              rw [mvI_s] at hP hD
              have hP : va_P D vwCl [(mm, .inr (3, [.int 0, .int (nI d), .int (nI (stX (decide (¬ u = 0)) dk)), .int ld, .int pl, .ref ao, .ref al, .int li, .int tl, .int (mvI ld mo (k + 1)), .ref aw, .ref aq, .int mn])), (ao, .inl (cI, 4, .inl fo)), (al, .inl (cI, 31, .inl fl))] H := hP
              have hD : va_D A [(mm, .inr (3, [.int 0, .int (nI d), .int (nI (stX (decide (¬ u = 0)) dk)), .int ld, .int pl, .ref ao, .ref al, .int li, .int tl, .int (mvI ld mo (k + 1)), .ref aw, .ref aq, .int mn])), (ao, .inl (cI, 4, .inl fo)), (al, .inl (cI, 31, .inl fl))] := hD
              refine lv_iinc (v := (nI k) + 1) (lv' := [(3, .int ((nI k) + 1)), (4, .int (nI (stX (decide (¬ u = 0)) dk))), (0, .ref mm), (1, .int (nI kv)), (2, .int u)]) hx hb dX3_stretch_81 hl (k := 1) rfl rfl (by decide) rfl (fun ls hl => ?_)
              refine lv_goto (tgt := 23) hx hb dX3_stretch_84 (by decide) ?_
              have hl : lv_has ls 5 [(3, .int (nI (k + 1))), (4, .int (nI (stX (decide (¬ u = 0)) dk))), (0, .ref mm), (1, .int (nI kv)), (2, .int u)] := (show (nI k) + 1 = nI (k + 1) from nI_1 k) ▸ hl
              exact ih (k + 1) (stX (decide (¬ u = 0)) dk) _ _ _ (by omega) cr (by rw [stN, if_pos ⟨cr, hs⟩] at hG; exact ⟨by rw [← hG.1]; exact (Nat.add_right_comm k 1 _).trans (Nat.add_assoc k _ 1), hG.2⟩) (lv_sub hl [0, 2, 3, 4] rfl) hP hD hS
            · have hs : safS fo fl pl ld d (stX (decide (¬ u = 0)) dk) = false := by rw [← hbv_57]; cases b_56 with | false => rfl | true => exact absurd c_58 (by decide)
              have hG1 : (stN (fun k => safS fo fl pl ld d k) (decide (¬ u = 0)) v.toNatClampNeg r).1 = k := by rw [← hG.1, stN, if_neg (fun z => by rw [hs] at z; exact absurd z.2 (by decide))]; rfl
              have hG2 : (stN (fun k => safS fo fl pl ld d k) (decide (¬ u = 0)) v.toNatClampNeg r).2 = dk := by rw [← hG.2, stN, if_neg (fun z => by rw [hs] at z; exact absurd z.2 (by decide))]
              refine lv_iload_n hx hb dX3_stretch_69 rfl (lv_at hl 1 rfl) ?_
              unfold mvI at hP
              rw [← hG2] at hP
              rw [← hG1] at hP
              have hK1 : k1 (inR v 1 30) = 0 := k1_yes hp
              exact W.iret (v := (nI k)) hx hb hRt (fun t ht hW => ⟨⟨by simp only [if_pos hK1]; rw [hG1], by rw [ht]; exact (by simp only [if_pos hK1]; rw [hK1]; exact hP)⟩, hS.F ht⟩) hS.2.2 dX3_stretch_70
          · refine c_top (show (bI (decide (3 ≤ nI (stX (decide (¬ u = 0)) dk)) && decide (nI (stX (decide (¬ u = 0)) dk) ≤ 30))) = 0 from isR_no hxl cr) ?_
            refine lv_if_eq (tgt := 69) hx hb dX3_stretch_49 (by decide) (fun _ => ?_) (fun c_54 => absurd (rfl) c_54)
            have hG1 : (stN (fun k => safS fo fl pl ld d k) (decide (¬ u = 0)) v.toNatClampNeg r).1 = k := by rw [← hG.1, stN, if_neg (fun z => cr z.1)]; rfl
            have hG2 : (stN (fun k => safS fo fl pl ld d k) (decide (¬ u = 0)) v.toNatClampNeg r).2 = dk := by rw [← hG.2, stN, if_neg (fun z => cr z.1)]
            refine lv_iload_n hx hb dX3_stretch_69 rfl (lv_at hl 1 rfl) ?_
            unfold mvI at hP
            rw [← hG2] at hP
            rw [← hG1] at hP
            have hK1 : k1 (inR v 1 30) = 0 := k1_yes hp
            exact W.iret (v := (nI k)) hx hb hRt (fun t ht hW => ⟨⟨by simp only [if_pos hK1]; rw [hG1], by rw [ht]; exact (by simp only [if_pos hK1]; rw [hK1]; exact hP)⟩, hS.F ht⟩) hS.2.2 dX3_stretch_70
        · refine lv_iconst (v := 1) hx hb dX3_stretch_36 (by decide) ?_
          refine lv_goto (tgt := 41) hx hb dX3_stretch_37 (by decide) ?_
          refine lv_iadd hx hb dX3_stretch_41 ?_
          refine c_top (show ((nI dk) + 1) = nI (stX (decide (¬ u = 0)) dk) from by rw [show (decide (¬ u = 0)) = true from by simp [c_53], nI_1]; rfl) ?_
          have hxl : stX (decide (¬ u = 0)) dk < 100 := by unfold stX; split <;> omega
          refine lv_istore (lv' := [(4, .int (nI (stX (decide (¬ u = 0)) dk))), (3, .int (nI k)), (0, .ref mm), (1, .int (nI kv)), (2, .int u)]) hx hb dX3_stretch_42 hl (by decide) rfl (fun ls hl => ?_)
          refine lv_iload hx hb dX3_stretch_44 (lv_at hl 0 rfl) ?_
          have hPc := hP.sub (ws' := []) [] rfl
          have hDc : va_D (fun q : Nat => L0 ≤ q) [] := (hD.sub (ws' := []) [] (by decide) rfl).weaken (fun _ z9 _ h9 => hAL _ h9)
          have hKc := hK.sub (tys' := []) [] rfl
          refine c_callR (va_runS (As := [.int (nI (stX (decide (¬ u = 0)) dk))]) (rest := []) ⟨hx, hb, hml, hown, hts⟩ (q_isReach l D L0 (nI (stX (decide (¬ u = 0)) dk))) (va_cwS 1 hts gX3_stretch_X3_isReach rfl rfl rfl (by decide +kernel) ⟨Nat.le_of_ble_eq_true rfl, Nat.le_of_ble_eq_true rfl⟩) ⟨cP_blind, cP_of hPc hKc hDc (kE_at hE0 hAL hS)⟩ rfl rfl hl.1 rfl (lv_room (Nat.le_of_ble_eq_true rfl)) dX3_stretch_46 ⟨Nat.le_of_ble_eq_true rfl, Nat.le_of_ble_eq_true rfl⟩) ?_
          show W _ _ _ _ _ _ _ _ _ _ _ _ _ _ _ (F0 m 49 ls [.int (bI (decide (3 ≤ nI (stX (decide (¬ u = 0)) dk)) && decide (nI (stX (decide (¬ u = 0)) dk) ≤ 30)))])
          by_cases cr : 3 ≤ stX (decide (¬ u = 0)) dk ∧ stX (decide (¬ u = 0)) dk ≤ 30
          · refine c_top (show (bI (decide (3 ≤ nI (stX (decide (¬ u = 0)) dk)) && decide (nI (stX (decide (¬ u = 0)) dk) ≤ 30))) = 1 from isR_yes cr) ?_
            refine lv_if_eq (tgt := 69) hx hb dX3_stretch_49 (by decide) (fun c_60 => absurd c_60 (by decide)) (fun _ => ?_)
            refine lv_aload_n hx hb dX3_stretch_52 rfl (lv_at hl 2 rfl) ?_
            refine lv_aload_n hx hb dX3_stretch_53 rfl (lv_at hl 2 rfl) ?_
            refine va_get (D := D) (ci := 3) (v := .int ld) (C := RX3) (T := TX3) (N := 13) hx hb hts hiX3 hown hK hP 0 rfl rfl 3 (by decide) (hts (.fieldLink RX3 53 "CraneReachModel" "load" "I") (by decide +kernel)) (fun _ h9 => h9) rfl dX3_stretch_54 ?_
            refine lv_aload_n hx hb dX3_stretch_57 rfl (lv_at hl 2 rfl) ?_
            refine va_get (D := D) (ci := 3) (v := .int (nI d)) (C := RX3) (T := TX3) (N := 13) hx hb hts hiX3 hown hK hP 0 rfl rfl 1 (by decide) (hts (.fieldLink RX3 56 "CraneReachModel" "direction" "I") (by decide +kernel)) (fun _ h9 => h9) rfl dX3_stretch_58 ?_
            refine lv_iload hx hb dX3_stretch_61 (lv_at hl 0 rfl) ?_
            have hPc := hP.sub (ws' := [(mm, .inr (3, [.int 0, .int (nI d), .int (nI dk), .int ld, .int pl, .ref ao, .ref al, .int li, .int tl, .int (mvI ld mo k), .ref aw, .ref aq, .int mn])), (ao, .inl (cI, 4, .inl fo)), (al, .inl (cI, 31, .inl fl))]) [0, 1, 2] rfl
            have hDc : va_D (fun q : Nat => L0 ≤ q) [(mm, .inr (3, [.int 0, .int (nI d), .int (nI dk), .int ld, .int pl, .ref ao, .ref al, .int li, .int tl, .int (mvI ld mo k), .ref aw, .ref aq, .int mn])), (ao, .inl (cI, 4, .inl fo)), (al, .inl (cI, 31, .inl fl))] := (hD.sub (ws' := [(mm, .inr (3, [.int 0, .int (nI d), .int (nI dk), .int ld, .int pl, .ref ao, .ref al, .int li, .int tl, .int (mvI ld mo k), .ref aw, .ref aq, .int mn])), (ao, .inl (cI, 4, .inl fo)), (al, .inl (cI, 31, .inl fl))]) [0, 1, 2] (by decide) rfl).weaken (fun _ z9 _ h9 => hAL _ h9)
            have hKc := hK.sub (tys' := [(cI, .int)]) [0] rfl
            refine c_callR (va_runV (As := [.int ld, .int (nI d), .int (nI (stX (decide (¬ u = 0)) dk))]) (rest := []) ⟨hx, hb, hml, hown, hts⟩ (q_isSafe l D L0 cI mm ao al aw aq d dk 0 ld pl li tl (mvI ld mo k) mn fo fl d (stX (decide (¬ u = 0)) dk) ld hd cr) (cwV 3 hts gX3_stretch_X3_isSafe rfl rfl rfl (by decide +kernel) ⟨Nat.le_of_ble_eq_true rfl, Nat.le_of_ble_eq_true rfl⟩) ⟨cP_blind, va_recv hKc hPc (ci := 3) (q0 := 0) rfl rfl, cP_of hPc hKc hDc (kE_at hE0 hAL hS)⟩ rfl rfl hl.1 rfl (lv_room (Nat.le_of_ble_eq_true rfl)) dX3_stretch_63 ⟨Nat.le_of_ble_eq_true rfl, Nat.le_of_ble_eq_true rfl⟩) ?_
            show W _ _ _ _ _ _ _ _ _ _ _ _ _ _ _ (F0 m 66 ls [.int (bI (safS fo fl pl ld d (stX (decide (¬ u = 0)) dk)))])
            obtain ⟨b_61, hbv_62⟩ : ∃ z9 : Bool, z9 = safS fo fl pl ld d (stX (decide (¬ u = 0)) dk) := ⟨_, rfl⟩
            refine c_top (show (bI (safS fo fl pl ld d (stX (decide (¬ u = 0)) dk))) = bI b_61 from by rw [hbv_62]) ?_
            refine lv_if_ne (tgt := 71) hx hb dX3_stretch_66 (by decide) (fun c_63 => ?_) (fun c_63 => ?_)
            · have hs : safS fo fl pl ld d (stX (decide (¬ u = 0)) dk) = true := by rw [← hbv_62]; cases b_61 with | true => rfl | false => exact absurd rfl c_63
              refine lv_aload_n hx hb dX3_stretch_71 rfl (lv_at hl 2 rfl) ?_
              refine lv_iload hx hb dX3_stretch_72 (lv_at hl 0 rfl) ?_
              refine va_put (D := D) (ci := 3) (v := .int (nI (stX (decide (¬ u = 0)) dk))) (ty := .int) (C := RX3) (T := TX3) (N := 13) hx hb hts hiX3 tyX3 tyX3_ok nmX3 hown hK hP hD hS 0 rfl rfl 2 (by decide) (hts (.fieldLink RX3 9 "CraneReachModel" "reach" "I") (by decide +kernel)) (fun _ h9 => h9) rfl (by decide +kernel) rfl rfl (Nat.le_of_ble_eq_true rfl) dX3_stretch_74 (fun H locs hP hD hS => ?_)
              have hP : va_P D vwCl [(mm, .inr (3, [.int 0, .int (nI d), .int (nI (stX (decide (¬ u = 0)) dk)), .int ld, .int pl, .ref ao, .ref al, .int li, .int tl, .int (mvI ld mo k), .ref aw, .ref aq, .int mn])), (ao, .inl (cI, 4, .inl fo)), (al, .inl (cI, 31, .inl fl))] H := hP
              have hD : va_D A [(mm, .inr (3, [.int 0, .int (nI d), .int (nI (stX (decide (¬ u = 0)) dk)), .int ld, .int pl, .ref ao, .ref al, .int li, .int tl, .int (mvI ld mo k), .ref aw, .ref aq, .int mn])), (ao, .inl (cI, 4, .inl fo)), (al, .inl (cI, 31, .inl fl))] := hD
              refine lv_aload_n hx hb dX3_stretch_77 rfl (lv_at hl 2 rfl) ?_
              have hPc := hP.sub (ws' := [(mm, .inr (3, [.int 0, .int (nI d), .int (nI (stX (decide (¬ u = 0)) dk)), .int ld, .int pl, .ref ao, .ref al, .int li, .int tl, .int (mvI ld mo k), .ref aw, .ref aq, .int mn]))]) [0] rfl
              have hDc : va_D (fun q : Nat => L0 ≤ q) [(mm, .inr (3, [.int 0, .int (nI d), .int (nI (stX (decide (¬ u = 0)) dk)), .int ld, .int pl, .ref ao, .ref al, .int li, .int tl, .int (mvI ld mo k), .ref aw, .ref aq, .int mn]))] := (hD.sub (ws' := [(mm, .inr (3, [.int 0, .int (nI d), .int (nI (stX (decide (¬ u = 0)) dk)), .int ld, .int pl, .ref ao, .ref al, .int li, .int tl, .int (mvI ld mo k), .ref aw, .ref aq, .int mn]))]) [0] (by decide) rfl).weaken (fun _ z9 _ h9 => hAL _ h9)
              have hKc := hK.sub (tys' := []) [] rfl
              refine c_callB (va_runV (As := []) (rest := []) ⟨hx, hb, hml, hown, hts⟩ (q_moved l D L0 mm ao al aw aq d (stX (decide (¬ u = 0)) dk) 0 ld pl li tl (mvI ld mo k) mn) (cwV 0 hts gX3_stretch_X3_moved rfl rfl rfl (by decide +kernel) ⟨Nat.le_of_ble_eq_true rfl, Nat.le_of_ble_eq_true rfl⟩) ⟨cP_blind, va_recv hKc hPc (ci := 3) (q0 := 0) rfl rfl, cP_of hPc hKc hDc (kE_at hE0 hAL hS)⟩ rfl rfl hl.1 rfl (lv_room (Nat.le_of_ble_eq_true rfl)) dX3_stretch_78 ⟨Nat.le_of_ble_eq_true rfl, Nat.le_of_ble_eq_true rfl⟩) hS (fun z9 _ ⟨k9, e9, h9⟩ => (hD.sub (ws' := [(mm, .inr (3, [.int 0, .int (nI d), .int (nI (stX (decide (¬ u = 0)) dk)), .int ld, .int pl, .ref ao, .ref al, .int li, .int tl, .int (mvI ld mo k), .ref aw, .ref aq, .int mn]))]) [0] (by decide) rfl).2 k9 (z9, e9) h9) (fun z9 ⟨k9, e9, h9⟩ => (hD.sub (ws' := [(mm, .inr (3, [.int 0, .int (nI d), .int (nI (stX (decide (¬ u = 0)) dk)), .int ld, .int pl, .ref ao, .ref al, .int li, .int tl, .int (mvI ld mo k), .ref aw, .ref aq, .int mn]))]) [0] (by decide) rfl).2 k9 (z9, e9) h9) (fun H1 locs hB hz1 hk1 hS => ?_)
              obtain ⟨hP, hD⟩ := c_join (ws' := [(mm, .inr (3, [.int 0, .int (nI d), .int (nI (stX (decide (¬ u = 0)) dk)), .int ld, .int pl, .ref ao, .ref al, .int li, .int tl, .int (mvI ld mo k + (if 0 < ld then 1 else 0)), .ref aw, .ref aq, .int mn])), (ao, .inl (cI, 4, .inl fo)), (al, .inl (cI, 31, .inl fl))]) (wr := [(ao, .inl (cI, 4, .inl fo)), (al, .inl (cI, 31, .inl fl))]) (w1 := [(mm, .inr (3, [.int 0, .int (nI d), .int (nI (stX (decide (¬ u = 0)) dk)), .int ld, .int pl, .ref ao, .ref al, .int li, .int tl, .int (mvI ld mo k + (if 0 < ld then 1 else 0)), .ref aw, .ref aq, .int mn]))]) hP hD [0] [1, 2] [2, 0, 1] rfl rfl (by decide) (by decide) hk1 hB rfl rfl rfl (by decide)
              generalize H1 = H at hP hS ⊢
              show W _ _ _ _ _ _ _ _ _ _ _ _ _ _ _ (F0 m 81 ls [])
              rw [mvI_s] at hP hD
              have hP : va_P D vwCl [(mm, .inr (3, [.int 0, .int (nI d), .int (nI (stX (decide (¬ u = 0)) dk)), .int ld, .int pl, .ref ao, .ref al, .int li, .int tl, .int (mvI ld mo (k + 1)), .ref aw, .ref aq, .int mn])), (ao, .inl (cI, 4, .inl fo)), (al, .inl (cI, 31, .inl fl))] H := hP
              have hD : va_D A [(mm, .inr (3, [.int 0, .int (nI d), .int (nI (stX (decide (¬ u = 0)) dk)), .int ld, .int pl, .ref ao, .ref al, .int li, .int tl, .int (mvI ld mo (k + 1)), .ref aw, .ref aq, .int mn])), (ao, .inl (cI, 4, .inl fo)), (al, .inl (cI, 31, .inl fl))] := hD
              refine lv_iinc (v := (nI k) + 1) (lv' := [(3, .int ((nI k) + 1)), (4, .int (nI (stX (decide (¬ u = 0)) dk))), (0, .ref mm), (1, .int (nI kv)), (2, .int u)]) hx hb dX3_stretch_81 hl (k := 1) rfl rfl (by decide) rfl (fun ls hl => ?_)
              refine lv_goto (tgt := 23) hx hb dX3_stretch_84 (by decide) ?_
              have hl : lv_has ls 5 [(3, .int (nI (k + 1))), (4, .int (nI (stX (decide (¬ u = 0)) dk))), (0, .ref mm), (1, .int (nI kv)), (2, .int u)] := (show (nI k) + 1 = nI (k + 1) from nI_1 k) ▸ hl
              exact ih (k + 1) (stX (decide (¬ u = 0)) dk) _ _ _ (by omega) cr (by rw [stN, if_pos ⟨cr, hs⟩] at hG; exact ⟨by rw [← hG.1]; exact (Nat.add_right_comm k 1 _).trans (Nat.add_assoc k _ 1), hG.2⟩) (lv_sub hl [0, 2, 3, 4] rfl) hP hD hS
            · have hs : safS fo fl pl ld d (stX (decide (¬ u = 0)) dk) = false := by rw [← hbv_62]; cases b_61 with | false => rfl | true => exact absurd c_63 (by decide)
              have hG1 : (stN (fun k => safS fo fl pl ld d k) (decide (¬ u = 0)) v.toNatClampNeg r).1 = k := by rw [← hG.1, stN, if_neg (fun z => by rw [hs] at z; exact absurd z.2 (by decide))]; rfl
              have hG2 : (stN (fun k => safS fo fl pl ld d k) (decide (¬ u = 0)) v.toNatClampNeg r).2 = dk := by rw [← hG.2, stN, if_neg (fun z => by rw [hs] at z; exact absurd z.2 (by decide))]
              refine lv_iload_n hx hb dX3_stretch_69 rfl (lv_at hl 1 rfl) ?_
              unfold mvI at hP
              rw [← hG2] at hP
              rw [← hG1] at hP
              have hK1 : k1 (inR v 1 30) = 0 := k1_yes hp
              exact W.iret (v := (nI k)) hx hb hRt (fun t ht hW => ⟨⟨by simp only [if_pos hK1]; rw [hG1], by rw [ht]; exact (by simp only [if_pos hK1]; rw [hK1]; exact hP)⟩, hS.F ht⟩) hS.2.2 dX3_stretch_70
          · refine c_top (show (bI (decide (3 ≤ nI (stX (decide (¬ u = 0)) dk)) && decide (nI (stX (decide (¬ u = 0)) dk) ≤ 30))) = 0 from isR_no hxl cr) ?_
            refine lv_if_eq (tgt := 69) hx hb dX3_stretch_49 (by decide) (fun _ => ?_) (fun c_59 => absurd (rfl) c_59)
            have hG1 : (stN (fun k => safS fo fl pl ld d k) (decide (¬ u = 0)) v.toNatClampNeg r).1 = k := by rw [← hG.1, stN, if_neg (fun z => cr z.1)]; rfl
            have hG2 : (stN (fun k => safS fo fl pl ld d k) (decide (¬ u = 0)) v.toNatClampNeg r).2 = dk := by rw [← hG.2, stN, if_neg (fun z => cr z.1)]
            refine lv_iload_n hx hb dX3_stretch_69 rfl (lv_at hl 1 rfl) ?_
            unfold mvI at hP
            rw [← hG2] at hP
            rw [← hG1] at hP
            have hK1 : k1 (inR v 1 30) = 0 := k1_yes hp
            exact W.iret (v := (nI k)) hx hb hRt (fun t ht hW => ⟨⟨by simp only [if_pos hK1]; rw [hG1], by rw [ht]; exact (by simp only [if_pos hK1]; rw [hK1]; exact hP)⟩, hS.F ht⟩) hS.2.2 dX3_stretch_70
    refine lv_iconst (v := 0) hx hb dX3_stretch_21 (by decide) ?_
    refine lv_istore_n (lv' := [(3, .int 0), (0, .ref mm), (1, .int (nI kv)), (2, .int u)]) hx hb dX3_stretch_22 rfl hl (by decide) rfl (fun ls hl => ?_)
    have hl : lv_has ls 5 [(3, .int (nI 0)), (0, .ref mm), (1, .int (nI kv)), (2, .int u)] := (show 0 = nI 0 from rfl) ▸ hl
    rw [← mvI_0 ld mo] at hP hD
    have hP : va_P D vwCl [(mm, .inr (3, [.int 0, .int (nI d), .int (nI r), .int ld, .int pl, .ref ao, .ref al, .int li, .int tl, .int (mvI ld mo 0), .ref aw, .ref aq, .int mn])), (ao, .inl (cI, 4, .inl fo)), (al, .inl (cI, 31, .inl fl))] H := hP
    have hD : va_D A [(mm, .inr (3, [.int 0, .int (nI d), .int (nI r), .int ld, .int pl, .ref ao, .ref al, .int li, .int tl, .int (mvI ld mo 0), .ref aw, .ref aq, .int mn])), (ao, .inl (cI, 4, .inl fo)), (al, .inl (cI, 31, .inl fl))] := hD
    exact loop kv 0 r _ _ _ (by omega) hr (by rw [hvn]; exact ⟨Nat.zero_add _, rfl⟩) (lv_sub hl [0, 1, 2, 3] rfl) hP hD hS
  · have hn : ¬ (inR v 1 30) := fun hp => absurd c_50 (by rw [hbv_49]; simp [hp.1, hp.2, bI])
    refine lv_aload_n hx hb dX3_stretch_15 rfl (lv_at hl 0 rfl) ?_
    refine lv_iconst (v := 1) hx hb dX3_stretch_16 (by decide) ?_
    have hPc := hP.sub (ws' := [(mm, .inr (3, [.int 0, .int (nI d), .int (nI r), .int ld, .int pl, .ref ao, .ref al, .int li, .int tl, .int mo, .ref aw, .ref aq, .int mn]))]) [0] rfl
    have hDc : va_D (fun q : Nat => L0 ≤ q) [(mm, .inr (3, [.int 0, .int (nI d), .int (nI r), .int ld, .int pl, .ref ao, .ref al, .int li, .int tl, .int mo, .ref aw, .ref aq, .int mn]))] := (hD.sub (ws' := [(mm, .inr (3, [.int 0, .int (nI d), .int (nI r), .int ld, .int pl, .ref ao, .ref al, .int li, .int tl, .int mo, .ref aw, .ref aq, .int mn]))]) [0] (by decide) rfl).weaken (fun _ z9 _ h9 => hAL _ h9)
    have hKc := hK.sub (tys' := []) [] rfl
    refine c_callB (va_runV (As := [.int 1]) (rest := []) ⟨hx, hb, hml, hown, hts⟩ (q_no l D L0 mm ao al aw aq d r 0 ld pl li tl mo mn 1) (cwV 1 hts gX3_stretch_X3_no rfl rfl rfl (by decide +kernel) ⟨Nat.le_of_ble_eq_true rfl, Nat.le_of_ble_eq_true rfl⟩) ⟨cP_blind, va_recv hKc hPc (ci := 3) (q0 := 0) rfl rfl, cP_of hPc hKc hDc (kE_at hE0 hAL hS)⟩ rfl rfl hl.1 rfl (lv_room (Nat.le_of_ble_eq_true rfl)) dX3_stretch_17 ⟨Nat.le_of_ble_eq_true rfl, Nat.le_of_ble_eq_true rfl⟩) hS (fun z9 _ ⟨k9, e9, h9⟩ => (hD.sub (ws' := [(mm, .inr (3, [.int 0, .int (nI d), .int (nI r), .int ld, .int pl, .ref ao, .ref al, .int li, .int tl, .int mo, .ref aw, .ref aq, .int mn]))]) [0] (by decide) rfl).2 k9 (z9, e9) h9) (fun z9 ⟨k9, e9, h9⟩ => (hD.sub (ws' := [(mm, .inr (3, [.int 0, .int (nI d), .int (nI r), .int ld, .int pl, .ref ao, .ref al, .int li, .int tl, .int mo, .ref aw, .ref aq, .int mn]))]) [0] (by decide) rfl).2 k9 (z9, e9) h9) (fun H1 locs hB hz1 hk1 hS => ?_)
    obtain ⟨hP, hD⟩ := c_join (ws' := [(mm, .inr (3, [.int 1, .int (nI d), .int (nI r), .int ld, .int pl, .ref ao, .ref al, .int li, .int tl, .int mo, .ref aw, .ref aq, .int mn])), (ao, .inl (cI, 4, .inl fo)), (al, .inl (cI, 31, .inl fl))]) (wr := [(ao, .inl (cI, 4, .inl fo)), (al, .inl (cI, 31, .inl fl))]) (w1 := [(mm, .inr (3, [.int 1, .int (nI d), .int (nI r), .int ld, .int pl, .ref ao, .ref al, .int li, .int tl, .int mo, .ref aw, .ref aq, .int mn]))]) hP hD [0] [1, 2] [2, 0, 1] rfl rfl (by decide) (by decide) hk1 hB rfl rfl rfl (by decide)
    generalize H1 = H at hP hS ⊢
    show W _ _ _ _ _ _ _ _ _ _ _ _ _ _ _ (F0 m 20 ls [.int 0])
    have hK1 : k1 (inR v 1 30) = 1 := k1_no hn
    have hKn : ¬ k1 (inR v 1 30) = 0 := by rw [hK1]; decide
    exact W.iret (v := 0) hx hb hRt (fun t ht hW => ⟨⟨by simp only [if_neg hKn], by rw [ht]; exact (by simp only [if_neg hKn]; rw [hK1]; exact hP)⟩, hS.F ht⟩) hS.2.2 dX3_stretch_20
set_option maxHeartbeats 4000000 in
set_option maxRecDepth 100000 in
/-- direction -/
theorem q_direction (l : Launch) (D : va_G) (L0 : Nat) (mm ao al aw aq d r : Nat) (th ld pl li tl mo mn : Int32) : Met l yX3_direction wsX3_direction ({ frames := 1, cells := 0, slots := 0, locals := 21 }) (cP L0 D [] [(mm, .inr (3, [.int th, .int (nI d), .int (nI r), .int ld, .int pl, .ref ao, .ref al, .int li, .int tl, .int mo, .ref aw, .ref aq, .int mn]))] [.ref mm]) (cB (some (.int (nI d))) (fun H => va_P D vwCl [(mm, .inr (3, [.int 0, .int (nI d), .int (nI r), .int ld, .int pl, .ref ao, .ref al, .int li, .int tl, .int mo, .ref aw, .ref aq, .int mn]))] H) (cA [(mm, .inr (3, [.int th, .int (nI d), .int (nI r), .int ld, .int pl, .ref ao, .ref al, .int li, .int tl, .int mo, .ref aw, .ref aq, .int mn]))])) 0 0 (cA [(mm, .inr (3, [.int th, .int (nI d), .int (nI r), .int ld, .int pl, .ref ao, .ref al, .int li, .int tl, .int mo, .ref aw, .ref aq, .int mn]))]) := by
  refine Met.ofW (cc := cX3_direction) (maxL := 1) (ret := (some .int)) (by decide) rfl ?_
  intro p e s m args below meth c s₁ B hml hv
  obtain ⟨rfl, hP, hK, hD0, hE0⟩ := hv
  have hx := B.exec
  have hb := B.bytes
  have hRt := B.returns
  have hts := atoms_spec (ws := wsX3_direction) B.pre
  have hown : s.vm.findClass RX3 = some m.cls := findClass_of_methodNamed B.named
  have hlocks := B.notSynchronized
  have hAL : ∀ z9 : Nat, cA [(mm, .inr (3, [.int th, .int (nI d), .int (nI r), .int ld, .int pl, .ref ao, .ref al, .int li, .int tl, .int mo, .ref aw, .ref aq, .int mn]))] z9 → L0 ≤ z9 := fun z9 ⟨k9, e9, h9⟩ => hD0.2 k9 (z9, e9) h9
  have hD : va_D (cA [(mm, .inr (3, [.int th, .int (nI d), .int (nI r), .int ld, .int pl, .ref ao, .ref al, .int li, .int tl, .int mo, .ref aw, .ref aq, .int mn]))]) [(mm, .inr (3, [.int th, .int (nI d), .int (nI r), .int ld, .int pl, .ref ao, .ref al, .int li, .int tl, .int mo, .ref aw, .ref aq, .int mn]))] := ⟨hD0.1, fun k9 z9 h9 => cA_of h9⟩
  generalize hAe : cA [(mm, .inr (3, [.int th, .int (nI d), .int (nI r), .int ld, .int pl, .ref ao, .ref al, .int li, .int tl, .int mo, .ref aw, .ref aq, .int mn]))] = A at hD hAL ⊢
  have hS : va_S A s.heap s.heap [] := va_S.rf
  have hiX3 : ∀ w ∈ u_ws RX3 TX3 13, w ∈ wsX3_direction := by decide +kernel
  have hl := lv_entry ([.ref mm]) (n := 1) (Nat.le_of_ble_eq_true rfl)
  rw [lg_entry_eq]
  generalize (lg_sl ([.ref mm]) ++ List.replicate (1 - (lg_sl ([.ref mm])).length) Slot.unset).toArray = ls at hl ⊢
  have hl : lv_has ls 1 [(0, .ref mm)] := hl
  refine lv_aload_n hx hb dX3_direction_0 rfl (lv_at hl 0 rfl) ?_
  refine lv_aload_n hx hb dX3_direction_1 rfl (lv_at hl 0 rfl) ?_
  refine va_get (D := D) (ci := 3) (v := .int (nI d)) (C := RX3) (T := TX3) (N := 13) hx hb hts hiX3 hown hK hP 0 rfl rfl 1 (by decide) (hts (.fieldLink RX3 56 "CraneReachModel" "direction" "I") (by decide +kernel)) (fun _ h9 => h9) rfl dX3_direction_2 ?_
  have hPc := hP.sub (ws' := [(mm, .inr (3, [.int th, .int (nI d), .int (nI r), .int ld, .int pl, .ref ao, .ref al, .int li, .int tl, .int mo, .ref aw, .ref aq, .int mn]))]) [0] rfl
  have hDc : va_D (fun q : Nat => L0 ≤ q) [(mm, .inr (3, [.int th, .int (nI d), .int (nI r), .int ld, .int pl, .ref ao, .ref al, .int li, .int tl, .int mo, .ref aw, .ref aq, .int mn]))] := (hD.sub (ws' := [(mm, .inr (3, [.int th, .int (nI d), .int (nI r), .int ld, .int pl, .ref ao, .ref al, .int li, .int tl, .int mo, .ref aw, .ref aq, .int mn]))]) [0] (by decide) rfl).weaken (fun _ z9 _ h9 => hAL _ h9)
  have hKc := hK.sub (tys' := []) [] rfl
  refine c_callB (va_runV (As := [.int (nI d)]) (rest := []) ⟨hx, hb, hml, hown, hts⟩ (q_ok l D L0 mm ao al aw aq d r th ld pl li tl mo mn (nI d)) (cwV 1 hts gX3_direction_X3_ok rfl rfl rfl (by decide +kernel) ⟨Nat.le_of_ble_eq_true rfl, Nat.le_of_ble_eq_true rfl⟩) ⟨cP_blind, va_recv hKc hPc (ci := 3) (q0 := 0) rfl rfl, cP_of hPc hKc hDc (kE_at hE0 hAL hS)⟩ rfl rfl hl.1 rfl (lv_room (Nat.le_of_ble_eq_true rfl)) dX3_direction_5 ⟨Nat.le_of_ble_eq_true rfl, Nat.le_of_ble_eq_true rfl⟩) hS (fun z9 _ ⟨k9, e9, h9⟩ => (hD.sub (ws' := [(mm, .inr (3, [.int th, .int (nI d), .int (nI r), .int ld, .int pl, .ref ao, .ref al, .int li, .int tl, .int mo, .ref aw, .ref aq, .int mn]))]) [0] (by decide) rfl).2 k9 (z9, e9) h9) (fun z9 ⟨k9, e9, h9⟩ => (hD.sub (ws' := [(mm, .inr (3, [.int th, .int (nI d), .int (nI r), .int ld, .int pl, .ref ao, .ref al, .int li, .int tl, .int mo, .ref aw, .ref aq, .int mn]))]) [0] (by decide) rfl).2 k9 (z9, e9) h9) (fun H1 locs hB hz1 hk1 hS => ?_)
  obtain ⟨hP, hD⟩ := c_join (ws' := [(mm, .inr (3, [.int 0, .int (nI d), .int (nI r), .int ld, .int pl, .ref ao, .ref al, .int li, .int tl, .int mo, .ref aw, .ref aq, .int mn]))]) (wr := []) (w1 := [(mm, .inr (3, [.int 0, .int (nI d), .int (nI r), .int ld, .int pl, .ref ao, .ref al, .int li, .int tl, .int mo, .ref aw, .ref aq, .int mn]))]) hP hD [0] [] [0] rfl rfl (by decide) (by decide) hk1 hB rfl rfl rfl (by decide)
  generalize H1 = H at hP hS ⊢
  show W _ _ _ _ _ _ _ _ _ _ _ _ _ _ _ (F0 m 8 ls [.int (nI d)])
  exact W.iret (v := (nI d)) hx hb hRt (fun t ht hW => ⟨⟨rfl, by rw [ht]; exact hP⟩, hS.F ht⟩) hS.2.2 dX3_direction_8
set_option maxHeartbeats 4000000 in
set_option maxRecDepth 100000 in
/-- reach -/
theorem q_reach (l : Launch) (D : va_G) (L0 : Nat) (mm ao al aw aq d r : Nat) (th ld pl li tl mo mn : Int32) : Met l yX3_reach wsX3_reach ({ frames := 1, cells := 0, slots := 0, locals := 21 }) (cP L0 D [] [(mm, .inr (3, [.int th, .int (nI d), .int (nI r), .int ld, .int pl, .ref ao, .ref al, .int li, .int tl, .int mo, .ref aw, .ref aq, .int mn]))] [.ref mm]) (cB (some (.int (nI r))) (fun H => va_P D vwCl [(mm, .inr (3, [.int 0, .int (nI d), .int (nI r), .int ld, .int pl, .ref ao, .ref al, .int li, .int tl, .int mo, .ref aw, .ref aq, .int mn]))] H) (cA [(mm, .inr (3, [.int th, .int (nI d), .int (nI r), .int ld, .int pl, .ref ao, .ref al, .int li, .int tl, .int mo, .ref aw, .ref aq, .int mn]))])) 0 0 (cA [(mm, .inr (3, [.int th, .int (nI d), .int (nI r), .int ld, .int pl, .ref ao, .ref al, .int li, .int tl, .int mo, .ref aw, .ref aq, .int mn]))]) := by
  refine Met.ofW (cc := cX3_reach) (maxL := 1) (ret := (some .int)) (by decide) rfl ?_
  intro p e s m args below meth c s₁ B hml hv
  obtain ⟨rfl, hP, hK, hD0, hE0⟩ := hv
  have hx := B.exec
  have hb := B.bytes
  have hRt := B.returns
  have hts := atoms_spec (ws := wsX3_reach) B.pre
  have hown : s.vm.findClass RX3 = some m.cls := findClass_of_methodNamed B.named
  have hlocks := B.notSynchronized
  have hAL : ∀ z9 : Nat, cA [(mm, .inr (3, [.int th, .int (nI d), .int (nI r), .int ld, .int pl, .ref ao, .ref al, .int li, .int tl, .int mo, .ref aw, .ref aq, .int mn]))] z9 → L0 ≤ z9 := fun z9 ⟨k9, e9, h9⟩ => hD0.2 k9 (z9, e9) h9
  have hD : va_D (cA [(mm, .inr (3, [.int th, .int (nI d), .int (nI r), .int ld, .int pl, .ref ao, .ref al, .int li, .int tl, .int mo, .ref aw, .ref aq, .int mn]))]) [(mm, .inr (3, [.int th, .int (nI d), .int (nI r), .int ld, .int pl, .ref ao, .ref al, .int li, .int tl, .int mo, .ref aw, .ref aq, .int mn]))] := ⟨hD0.1, fun k9 z9 h9 => cA_of h9⟩
  generalize hAe : cA [(mm, .inr (3, [.int th, .int (nI d), .int (nI r), .int ld, .int pl, .ref ao, .ref al, .int li, .int tl, .int mo, .ref aw, .ref aq, .int mn]))] = A at hD hAL ⊢
  have hS : va_S A s.heap s.heap [] := va_S.rf
  have hiX3 : ∀ w ∈ u_ws RX3 TX3 13, w ∈ wsX3_reach := by decide +kernel
  have hl := lv_entry ([.ref mm]) (n := 1) (Nat.le_of_ble_eq_true rfl)
  rw [lg_entry_eq]
  generalize (lg_sl ([.ref mm]) ++ List.replicate (1 - (lg_sl ([.ref mm])).length) Slot.unset).toArray = ls at hl ⊢
  have hl : lv_has ls 1 [(0, .ref mm)] := hl
  refine lv_aload_n hx hb dX3_reach_0 rfl (lv_at hl 0 rfl) ?_
  refine lv_aload_n hx hb dX3_reach_1 rfl (lv_at hl 0 rfl) ?_
  refine va_get (D := D) (ci := 3) (v := .int (nI r)) (C := RX3) (T := TX3) (N := 13) hx hb hts hiX3 hown hK hP 0 rfl rfl 2 (by decide) (hts (.fieldLink RX3 9 "CraneReachModel" "reach" "I") (by decide +kernel)) (fun _ h9 => h9) rfl dX3_reach_2 ?_
  have hPc := hP.sub (ws' := [(mm, .inr (3, [.int th, .int (nI d), .int (nI r), .int ld, .int pl, .ref ao, .ref al, .int li, .int tl, .int mo, .ref aw, .ref aq, .int mn]))]) [0] rfl
  have hDc : va_D (fun q : Nat => L0 ≤ q) [(mm, .inr (3, [.int th, .int (nI d), .int (nI r), .int ld, .int pl, .ref ao, .ref al, .int li, .int tl, .int mo, .ref aw, .ref aq, .int mn]))] := (hD.sub (ws' := [(mm, .inr (3, [.int th, .int (nI d), .int (nI r), .int ld, .int pl, .ref ao, .ref al, .int li, .int tl, .int mo, .ref aw, .ref aq, .int mn]))]) [0] (by decide) rfl).weaken (fun _ z9 _ h9 => hAL _ h9)
  have hKc := hK.sub (tys' := []) [] rfl
  refine c_callB (va_runV (As := [.int (nI r)]) (rest := []) ⟨hx, hb, hml, hown, hts⟩ (q_ok l D L0 mm ao al aw aq d r th ld pl li tl mo mn (nI r)) (cwV 1 hts gX3_reach_X3_ok rfl rfl rfl (by decide +kernel) ⟨Nat.le_of_ble_eq_true rfl, Nat.le_of_ble_eq_true rfl⟩) ⟨cP_blind, va_recv hKc hPc (ci := 3) (q0 := 0) rfl rfl, cP_of hPc hKc hDc (kE_at hE0 hAL hS)⟩ rfl rfl hl.1 rfl (lv_room (Nat.le_of_ble_eq_true rfl)) dX3_reach_5 ⟨Nat.le_of_ble_eq_true rfl, Nat.le_of_ble_eq_true rfl⟩) hS (fun z9 _ ⟨k9, e9, h9⟩ => (hD.sub (ws' := [(mm, .inr (3, [.int th, .int (nI d), .int (nI r), .int ld, .int pl, .ref ao, .ref al, .int li, .int tl, .int mo, .ref aw, .ref aq, .int mn]))]) [0] (by decide) rfl).2 k9 (z9, e9) h9) (fun z9 ⟨k9, e9, h9⟩ => (hD.sub (ws' := [(mm, .inr (3, [.int th, .int (nI d), .int (nI r), .int ld, .int pl, .ref ao, .ref al, .int li, .int tl, .int mo, .ref aw, .ref aq, .int mn]))]) [0] (by decide) rfl).2 k9 (z9, e9) h9) (fun H1 locs hB hz1 hk1 hS => ?_)
  obtain ⟨hP, hD⟩ := c_join (ws' := [(mm, .inr (3, [.int 0, .int (nI d), .int (nI r), .int ld, .int pl, .ref ao, .ref al, .int li, .int tl, .int mo, .ref aw, .ref aq, .int mn]))]) (wr := []) (w1 := [(mm, .inr (3, [.int 0, .int (nI d), .int (nI r), .int ld, .int pl, .ref ao, .ref al, .int li, .int tl, .int mo, .ref aw, .ref aq, .int mn]))]) hP hD [0] [] [0] rfl rfl (by decide) (by decide) hk1 hB rfl rfl rfl (by decide)
  generalize H1 = H at hP hS ⊢
  show W _ _ _ _ _ _ _ _ _ _ _ _ _ _ _ (F0 m 8 ls [.int (nI r)])
  exact W.iret (v := (nI r)) hx hb hRt (fun t ht hW => ⟨⟨rfl, by rw [ht]; exact hP⟩, hS.F ht⟩) hS.2.2 dX3_reach_8
set_option maxHeartbeats 4000000 in
set_option maxRecDepth 100000 in
/-- load -/
theorem q_load (l : Launch) (D : va_G) (L0 : Nat) (mm ao al aw aq d r : Nat) (th ld pl li tl mo mn : Int32) : Met l yX3_load wsX3_load ({ frames := 1, cells := 0, slots := 0, locals := 21 }) (cP L0 D [] [(mm, .inr (3, [.int th, .int (nI d), .int (nI r), .int ld, .int pl, .ref ao, .ref al, .int li, .int tl, .int mo, .ref aw, .ref aq, .int mn]))] [.ref mm]) (cB (some (.int ld)) (fun H => va_P D vwCl [(mm, .inr (3, [.int 0, .int (nI d), .int (nI r), .int ld, .int pl, .ref ao, .ref al, .int li, .int tl, .int mo, .ref aw, .ref aq, .int mn]))] H) (cA [(mm, .inr (3, [.int th, .int (nI d), .int (nI r), .int ld, .int pl, .ref ao, .ref al, .int li, .int tl, .int mo, .ref aw, .ref aq, .int mn]))])) 0 0 (cA [(mm, .inr (3, [.int th, .int (nI d), .int (nI r), .int ld, .int pl, .ref ao, .ref al, .int li, .int tl, .int mo, .ref aw, .ref aq, .int mn]))]) := by
  refine Met.ofW (cc := cX3_load) (maxL := 1) (ret := (some .int)) (by decide) rfl ?_
  intro p e s m args below meth c s₁ B hml hv
  obtain ⟨rfl, hP, hK, hD0, hE0⟩ := hv
  have hx := B.exec
  have hb := B.bytes
  have hRt := B.returns
  have hts := atoms_spec (ws := wsX3_load) B.pre
  have hown : s.vm.findClass RX3 = some m.cls := findClass_of_methodNamed B.named
  have hlocks := B.notSynchronized
  have hAL : ∀ z9 : Nat, cA [(mm, .inr (3, [.int th, .int (nI d), .int (nI r), .int ld, .int pl, .ref ao, .ref al, .int li, .int tl, .int mo, .ref aw, .ref aq, .int mn]))] z9 → L0 ≤ z9 := fun z9 ⟨k9, e9, h9⟩ => hD0.2 k9 (z9, e9) h9
  have hD : va_D (cA [(mm, .inr (3, [.int th, .int (nI d), .int (nI r), .int ld, .int pl, .ref ao, .ref al, .int li, .int tl, .int mo, .ref aw, .ref aq, .int mn]))]) [(mm, .inr (3, [.int th, .int (nI d), .int (nI r), .int ld, .int pl, .ref ao, .ref al, .int li, .int tl, .int mo, .ref aw, .ref aq, .int mn]))] := ⟨hD0.1, fun k9 z9 h9 => cA_of h9⟩
  generalize hAe : cA [(mm, .inr (3, [.int th, .int (nI d), .int (nI r), .int ld, .int pl, .ref ao, .ref al, .int li, .int tl, .int mo, .ref aw, .ref aq, .int mn]))] = A at hD hAL ⊢
  have hS : va_S A s.heap s.heap [] := va_S.rf
  have hiX3 : ∀ w ∈ u_ws RX3 TX3 13, w ∈ wsX3_load := by decide +kernel
  have hl := lv_entry ([.ref mm]) (n := 1) (Nat.le_of_ble_eq_true rfl)
  rw [lg_entry_eq]
  generalize (lg_sl ([.ref mm]) ++ List.replicate (1 - (lg_sl ([.ref mm])).length) Slot.unset).toArray = ls at hl ⊢
  have hl : lv_has ls 1 [(0, .ref mm)] := hl
  refine lv_aload_n hx hb dX3_load_0 rfl (lv_at hl 0 rfl) ?_
  refine lv_aload_n hx hb dX3_load_1 rfl (lv_at hl 0 rfl) ?_
  refine va_get (D := D) (ci := 3) (v := .int ld) (C := RX3) (T := TX3) (N := 13) hx hb hts hiX3 hown hK hP 0 rfl rfl 3 (by decide) (hts (.fieldLink RX3 53 "CraneReachModel" "load" "I") (by decide +kernel)) (fun _ h9 => h9) rfl dX3_load_2 ?_
  have hPc := hP.sub (ws' := [(mm, .inr (3, [.int th, .int (nI d), .int (nI r), .int ld, .int pl, .ref ao, .ref al, .int li, .int tl, .int mo, .ref aw, .ref aq, .int mn]))]) [0] rfl
  have hDc : va_D (fun q : Nat => L0 ≤ q) [(mm, .inr (3, [.int th, .int (nI d), .int (nI r), .int ld, .int pl, .ref ao, .ref al, .int li, .int tl, .int mo, .ref aw, .ref aq, .int mn]))] := (hD.sub (ws' := [(mm, .inr (3, [.int th, .int (nI d), .int (nI r), .int ld, .int pl, .ref ao, .ref al, .int li, .int tl, .int mo, .ref aw, .ref aq, .int mn]))]) [0] (by decide) rfl).weaken (fun _ z9 _ h9 => hAL _ h9)
  have hKc := hK.sub (tys' := []) [] rfl
  refine c_callB (va_runV (As := [.int ld]) (rest := []) ⟨hx, hb, hml, hown, hts⟩ (q_ok l D L0 mm ao al aw aq d r th ld pl li tl mo mn ld) (cwV 1 hts gX3_load_X3_ok rfl rfl rfl (by decide +kernel) ⟨Nat.le_of_ble_eq_true rfl, Nat.le_of_ble_eq_true rfl⟩) ⟨cP_blind, va_recv hKc hPc (ci := 3) (q0 := 0) rfl rfl, cP_of hPc hKc hDc (kE_at hE0 hAL hS)⟩ rfl rfl hl.1 rfl (lv_room (Nat.le_of_ble_eq_true rfl)) dX3_load_5 ⟨Nat.le_of_ble_eq_true rfl, Nat.le_of_ble_eq_true rfl⟩) hS (fun z9 _ ⟨k9, e9, h9⟩ => (hD.sub (ws' := [(mm, .inr (3, [.int th, .int (nI d), .int (nI r), .int ld, .int pl, .ref ao, .ref al, .int li, .int tl, .int mo, .ref aw, .ref aq, .int mn]))]) [0] (by decide) rfl).2 k9 (z9, e9) h9) (fun z9 ⟨k9, e9, h9⟩ => (hD.sub (ws' := [(mm, .inr (3, [.int th, .int (nI d), .int (nI r), .int ld, .int pl, .ref ao, .ref al, .int li, .int tl, .int mo, .ref aw, .ref aq, .int mn]))]) [0] (by decide) rfl).2 k9 (z9, e9) h9) (fun H1 locs hB hz1 hk1 hS => ?_)
  obtain ⟨hP, hD⟩ := c_join (ws' := [(mm, .inr (3, [.int 0, .int (nI d), .int (nI r), .int ld, .int pl, .ref ao, .ref al, .int li, .int tl, .int mo, .ref aw, .ref aq, .int mn]))]) (wr := []) (w1 := [(mm, .inr (3, [.int 0, .int (nI d), .int (nI r), .int ld, .int pl, .ref ao, .ref al, .int li, .int tl, .int mo, .ref aw, .ref aq, .int mn]))]) hP hD [0] [] [0] rfl rfl (by decide) (by decide) hk1 hB rfl rfl rfl (by decide)
  generalize H1 = H at hP hS ⊢
  show W _ _ _ _ _ _ _ _ _ _ _ _ _ _ _ (F0 m 8 ls [.int ld])
  exact W.iret (v := ld) hx hb hRt (fun t ht hW => ⟨⟨rfl, by rw [ht]; exact hP⟩, hS.F ht⟩) hS.2.2 dX3_load_8
set_option maxHeartbeats 4000000 in
set_option maxRecDepth 100000 in
/-- plates -/
theorem q_plates (l : Launch) (D : va_G) (L0 : Nat) (mm ao al aw aq d r : Nat) (th ld pl li tl mo mn : Int32) : Met l yX3_plates wsX3_plates ({ frames := 1, cells := 0, slots := 0, locals := 21 }) (cP L0 D [] [(mm, .inr (3, [.int th, .int (nI d), .int (nI r), .int ld, .int pl, .ref ao, .ref al, .int li, .int tl, .int mo, .ref aw, .ref aq, .int mn]))] [.ref mm]) (cB (some (.int pl)) (fun H => va_P D vwCl [(mm, .inr (3, [.int 0, .int (nI d), .int (nI r), .int ld, .int pl, .ref ao, .ref al, .int li, .int tl, .int mo, .ref aw, .ref aq, .int mn]))] H) (cA [(mm, .inr (3, [.int th, .int (nI d), .int (nI r), .int ld, .int pl, .ref ao, .ref al, .int li, .int tl, .int mo, .ref aw, .ref aq, .int mn]))])) 0 0 (cA [(mm, .inr (3, [.int th, .int (nI d), .int (nI r), .int ld, .int pl, .ref ao, .ref al, .int li, .int tl, .int mo, .ref aw, .ref aq, .int mn]))]) := by
  refine Met.ofW (cc := cX3_plates) (maxL := 1) (ret := (some .int)) (by decide) rfl ?_
  intro p e s m args below meth c s₁ B hml hv
  obtain ⟨rfl, hP, hK, hD0, hE0⟩ := hv
  have hx := B.exec
  have hb := B.bytes
  have hRt := B.returns
  have hts := atoms_spec (ws := wsX3_plates) B.pre
  have hown : s.vm.findClass RX3 = some m.cls := findClass_of_methodNamed B.named
  have hlocks := B.notSynchronized
  have hAL : ∀ z9 : Nat, cA [(mm, .inr (3, [.int th, .int (nI d), .int (nI r), .int ld, .int pl, .ref ao, .ref al, .int li, .int tl, .int mo, .ref aw, .ref aq, .int mn]))] z9 → L0 ≤ z9 := fun z9 ⟨k9, e9, h9⟩ => hD0.2 k9 (z9, e9) h9
  have hD : va_D (cA [(mm, .inr (3, [.int th, .int (nI d), .int (nI r), .int ld, .int pl, .ref ao, .ref al, .int li, .int tl, .int mo, .ref aw, .ref aq, .int mn]))]) [(mm, .inr (3, [.int th, .int (nI d), .int (nI r), .int ld, .int pl, .ref ao, .ref al, .int li, .int tl, .int mo, .ref aw, .ref aq, .int mn]))] := ⟨hD0.1, fun k9 z9 h9 => cA_of h9⟩
  generalize hAe : cA [(mm, .inr (3, [.int th, .int (nI d), .int (nI r), .int ld, .int pl, .ref ao, .ref al, .int li, .int tl, .int mo, .ref aw, .ref aq, .int mn]))] = A at hD hAL ⊢
  have hS : va_S A s.heap s.heap [] := va_S.rf
  have hiX3 : ∀ w ∈ u_ws RX3 TX3 13, w ∈ wsX3_plates := by decide +kernel
  have hl := lv_entry ([.ref mm]) (n := 1) (Nat.le_of_ble_eq_true rfl)
  rw [lg_entry_eq]
  generalize (lg_sl ([.ref mm]) ++ List.replicate (1 - (lg_sl ([.ref mm])).length) Slot.unset).toArray = ls at hl ⊢
  have hl : lv_has ls 1 [(0, .ref mm)] := hl
  refine lv_aload_n hx hb dX3_plates_0 rfl (lv_at hl 0 rfl) ?_
  refine lv_aload_n hx hb dX3_plates_1 rfl (lv_at hl 0 rfl) ?_
  refine va_get (D := D) (ci := 3) (v := .int pl) (C := RX3) (T := TX3) (N := 13) hx hb hts hiX3 hown hK hP 0 rfl rfl 4 (by decide) (hts (.fieldLink RX3 46 "CraneReachModel" "plates" "I") (by decide +kernel)) (fun _ h9 => h9) rfl dX3_plates_2 ?_
  have hPc := hP.sub (ws' := [(mm, .inr (3, [.int th, .int (nI d), .int (nI r), .int ld, .int pl, .ref ao, .ref al, .int li, .int tl, .int mo, .ref aw, .ref aq, .int mn]))]) [0] rfl
  have hDc : va_D (fun q : Nat => L0 ≤ q) [(mm, .inr (3, [.int th, .int (nI d), .int (nI r), .int ld, .int pl, .ref ao, .ref al, .int li, .int tl, .int mo, .ref aw, .ref aq, .int mn]))] := (hD.sub (ws' := [(mm, .inr (3, [.int th, .int (nI d), .int (nI r), .int ld, .int pl, .ref ao, .ref al, .int li, .int tl, .int mo, .ref aw, .ref aq, .int mn]))]) [0] (by decide) rfl).weaken (fun _ z9 _ h9 => hAL _ h9)
  have hKc := hK.sub (tys' := []) [] rfl
  refine c_callB (va_runV (As := [.int pl]) (rest := []) ⟨hx, hb, hml, hown, hts⟩ (q_ok l D L0 mm ao al aw aq d r th ld pl li tl mo mn pl) (cwV 1 hts gX3_plates_X3_ok rfl rfl rfl (by decide +kernel) ⟨Nat.le_of_ble_eq_true rfl, Nat.le_of_ble_eq_true rfl⟩) ⟨cP_blind, va_recv hKc hPc (ci := 3) (q0 := 0) rfl rfl, cP_of hPc hKc hDc (kE_at hE0 hAL hS)⟩ rfl rfl hl.1 rfl (lv_room (Nat.le_of_ble_eq_true rfl)) dX3_plates_5 ⟨Nat.le_of_ble_eq_true rfl, Nat.le_of_ble_eq_true rfl⟩) hS (fun z9 _ ⟨k9, e9, h9⟩ => (hD.sub (ws' := [(mm, .inr (3, [.int th, .int (nI d), .int (nI r), .int ld, .int pl, .ref ao, .ref al, .int li, .int tl, .int mo, .ref aw, .ref aq, .int mn]))]) [0] (by decide) rfl).2 k9 (z9, e9) h9) (fun z9 ⟨k9, e9, h9⟩ => (hD.sub (ws' := [(mm, .inr (3, [.int th, .int (nI d), .int (nI r), .int ld, .int pl, .ref ao, .ref al, .int li, .int tl, .int mo, .ref aw, .ref aq, .int mn]))]) [0] (by decide) rfl).2 k9 (z9, e9) h9) (fun H1 locs hB hz1 hk1 hS => ?_)
  obtain ⟨hP, hD⟩ := c_join (ws' := [(mm, .inr (3, [.int 0, .int (nI d), .int (nI r), .int ld, .int pl, .ref ao, .ref al, .int li, .int tl, .int mo, .ref aw, .ref aq, .int mn]))]) (wr := []) (w1 := [(mm, .inr (3, [.int 0, .int (nI d), .int (nI r), .int ld, .int pl, .ref ao, .ref al, .int li, .int tl, .int mo, .ref aw, .ref aq, .int mn]))]) hP hD [0] [] [0] rfl rfl (by decide) (by decide) hk1 hB rfl rfl rfl (by decide)
  generalize H1 = H at hP hS ⊢
  show W _ _ _ _ _ _ _ _ _ _ _ _ _ _ _ (F0 m 8 ls [.int pl])
  exact W.iret (v := pl) hx hb hRt (fun t ht hW => ⟨⟨rfl, by rw [ht]; exact hP⟩, hS.F ht⟩) hS.2.2 dX3_plates_8
set_option maxHeartbeats 4000000 in
set_option maxRecDepth 100000 in
/-- lifts -/
theorem q_lifts (l : Launch) (D : va_G) (L0 : Nat) (mm ao al aw aq d r : Nat) (th ld pl li tl mo mn : Int32) : Met l yX3_lifts wsX3_lifts ({ frames := 1, cells := 0, slots := 0, locals := 21 }) (cP L0 D [] [(mm, .inr (3, [.int th, .int (nI d), .int (nI r), .int ld, .int pl, .ref ao, .ref al, .int li, .int tl, .int mo, .ref aw, .ref aq, .int mn]))] [.ref mm]) (cB (some (.int li)) (fun H => va_P D vwCl [(mm, .inr (3, [.int 0, .int (nI d), .int (nI r), .int ld, .int pl, .ref ao, .ref al, .int li, .int tl, .int mo, .ref aw, .ref aq, .int mn]))] H) (cA [(mm, .inr (3, [.int th, .int (nI d), .int (nI r), .int ld, .int pl, .ref ao, .ref al, .int li, .int tl, .int mo, .ref aw, .ref aq, .int mn]))])) 0 0 (cA [(mm, .inr (3, [.int th, .int (nI d), .int (nI r), .int ld, .int pl, .ref ao, .ref al, .int li, .int tl, .int mo, .ref aw, .ref aq, .int mn]))]) := by
  refine Met.ofW (cc := cX3_lifts) (maxL := 1) (ret := (some .int)) (by decide) rfl ?_
  intro p e s m args below meth c s₁ B hml hv
  obtain ⟨rfl, hP, hK, hD0, hE0⟩ := hv
  have hx := B.exec
  have hb := B.bytes
  have hRt := B.returns
  have hts := atoms_spec (ws := wsX3_lifts) B.pre
  have hown : s.vm.findClass RX3 = some m.cls := findClass_of_methodNamed B.named
  have hlocks := B.notSynchronized
  have hAL : ∀ z9 : Nat, cA [(mm, .inr (3, [.int th, .int (nI d), .int (nI r), .int ld, .int pl, .ref ao, .ref al, .int li, .int tl, .int mo, .ref aw, .ref aq, .int mn]))] z9 → L0 ≤ z9 := fun z9 ⟨k9, e9, h9⟩ => hD0.2 k9 (z9, e9) h9
  have hD : va_D (cA [(mm, .inr (3, [.int th, .int (nI d), .int (nI r), .int ld, .int pl, .ref ao, .ref al, .int li, .int tl, .int mo, .ref aw, .ref aq, .int mn]))]) [(mm, .inr (3, [.int th, .int (nI d), .int (nI r), .int ld, .int pl, .ref ao, .ref al, .int li, .int tl, .int mo, .ref aw, .ref aq, .int mn]))] := ⟨hD0.1, fun k9 z9 h9 => cA_of h9⟩
  generalize hAe : cA [(mm, .inr (3, [.int th, .int (nI d), .int (nI r), .int ld, .int pl, .ref ao, .ref al, .int li, .int tl, .int mo, .ref aw, .ref aq, .int mn]))] = A at hD hAL ⊢
  have hS : va_S A s.heap s.heap [] := va_S.rf
  have hiX3 : ∀ w ∈ u_ws RX3 TX3 13, w ∈ wsX3_lifts := by decide +kernel
  have hl := lv_entry ([.ref mm]) (n := 1) (Nat.le_of_ble_eq_true rfl)
  rw [lg_entry_eq]
  generalize (lg_sl ([.ref mm]) ++ List.replicate (1 - (lg_sl ([.ref mm])).length) Slot.unset).toArray = ls at hl ⊢
  have hl : lv_has ls 1 [(0, .ref mm)] := hl
  refine lv_aload_n hx hb dX3_lifts_0 rfl (lv_at hl 0 rfl) ?_
  refine lv_aload_n hx hb dX3_lifts_1 rfl (lv_at hl 0 rfl) ?_
  refine va_get (D := D) (ci := 3) (v := .int li) (C := RX3) (T := TX3) (N := 13) hx hb hts hiX3 hown hK hP 0 rfl rfl 7 (by decide) (hts (.fieldLink RX3 78 "CraneReachModel" "lifts" "I") (by decide +kernel)) (fun _ h9 => h9) rfl dX3_lifts_2 ?_
  have hPc := hP.sub (ws' := [(mm, .inr (3, [.int th, .int (nI d), .int (nI r), .int ld, .int pl, .ref ao, .ref al, .int li, .int tl, .int mo, .ref aw, .ref aq, .int mn]))]) [0] rfl
  have hDc : va_D (fun q : Nat => L0 ≤ q) [(mm, .inr (3, [.int th, .int (nI d), .int (nI r), .int ld, .int pl, .ref ao, .ref al, .int li, .int tl, .int mo, .ref aw, .ref aq, .int mn]))] := (hD.sub (ws' := [(mm, .inr (3, [.int th, .int (nI d), .int (nI r), .int ld, .int pl, .ref ao, .ref al, .int li, .int tl, .int mo, .ref aw, .ref aq, .int mn]))]) [0] (by decide) rfl).weaken (fun _ z9 _ h9 => hAL _ h9)
  have hKc := hK.sub (tys' := []) [] rfl
  refine c_callB (va_runV (As := [.int li]) (rest := []) ⟨hx, hb, hml, hown, hts⟩ (q_ok l D L0 mm ao al aw aq d r th ld pl li tl mo mn li) (cwV 1 hts gX3_lifts_X3_ok rfl rfl rfl (by decide +kernel) ⟨Nat.le_of_ble_eq_true rfl, Nat.le_of_ble_eq_true rfl⟩) ⟨cP_blind, va_recv hKc hPc (ci := 3) (q0 := 0) rfl rfl, cP_of hPc hKc hDc (kE_at hE0 hAL hS)⟩ rfl rfl hl.1 rfl (lv_room (Nat.le_of_ble_eq_true rfl)) dX3_lifts_5 ⟨Nat.le_of_ble_eq_true rfl, Nat.le_of_ble_eq_true rfl⟩) hS (fun z9 _ ⟨k9, e9, h9⟩ => (hD.sub (ws' := [(mm, .inr (3, [.int th, .int (nI d), .int (nI r), .int ld, .int pl, .ref ao, .ref al, .int li, .int tl, .int mo, .ref aw, .ref aq, .int mn]))]) [0] (by decide) rfl).2 k9 (z9, e9) h9) (fun z9 ⟨k9, e9, h9⟩ => (hD.sub (ws' := [(mm, .inr (3, [.int th, .int (nI d), .int (nI r), .int ld, .int pl, .ref ao, .ref al, .int li, .int tl, .int mo, .ref aw, .ref aq, .int mn]))]) [0] (by decide) rfl).2 k9 (z9, e9) h9) (fun H1 locs hB hz1 hk1 hS => ?_)
  obtain ⟨hP, hD⟩ := c_join (ws' := [(mm, .inr (3, [.int 0, .int (nI d), .int (nI r), .int ld, .int pl, .ref ao, .ref al, .int li, .int tl, .int mo, .ref aw, .ref aq, .int mn]))]) (wr := []) (w1 := [(mm, .inr (3, [.int 0, .int (nI d), .int (nI r), .int ld, .int pl, .ref ao, .ref al, .int li, .int tl, .int mo, .ref aw, .ref aq, .int mn]))]) hP hD [0] [] [0] rfl rfl (by decide) (by decide) hk1 hB rfl rfl rfl (by decide)
  generalize H1 = H at hP hS ⊢
  show W _ _ _ _ _ _ _ _ _ _ _ _ _ _ _ (F0 m 8 ls [.int li])
  exact W.iret (v := li) hx hb hRt (fun t ht hW => ⟨⟨rfl, by rw [ht]; exact hP⟩, hS.F ht⟩) hS.2.2 dX3_lifts_8
set_option maxHeartbeats 4000000 in
set_option maxRecDepth 100000 in
/-- tonsLifted -/
theorem q_tonsLifted (l : Launch) (D : va_G) (L0 : Nat) (mm ao al aw aq d r : Nat) (th ld pl li tl mo mn : Int32) : Met l yX3_tonsLifted wsX3_tonsLifted ({ frames := 1, cells := 0, slots := 0, locals := 21 }) (cP L0 D [] [(mm, .inr (3, [.int th, .int (nI d), .int (nI r), .int ld, .int pl, .ref ao, .ref al, .int li, .int tl, .int mo, .ref aw, .ref aq, .int mn]))] [.ref mm]) (cB (some (.int tl)) (fun H => va_P D vwCl [(mm, .inr (3, [.int 0, .int (nI d), .int (nI r), .int ld, .int pl, .ref ao, .ref al, .int li, .int tl, .int mo, .ref aw, .ref aq, .int mn]))] H) (cA [(mm, .inr (3, [.int th, .int (nI d), .int (nI r), .int ld, .int pl, .ref ao, .ref al, .int li, .int tl, .int mo, .ref aw, .ref aq, .int mn]))])) 0 0 (cA [(mm, .inr (3, [.int th, .int (nI d), .int (nI r), .int ld, .int pl, .ref ao, .ref al, .int li, .int tl, .int mo, .ref aw, .ref aq, .int mn]))]) := by
  refine Met.ofW (cc := cX3_tonsLifted) (maxL := 1) (ret := (some .int)) (by decide) rfl ?_
  intro p e s m args below meth c s₁ B hml hv
  obtain ⟨rfl, hP, hK, hD0, hE0⟩ := hv
  have hx := B.exec
  have hb := B.bytes
  have hRt := B.returns
  have hts := atoms_spec (ws := wsX3_tonsLifted) B.pre
  have hown : s.vm.findClass RX3 = some m.cls := findClass_of_methodNamed B.named
  have hlocks := B.notSynchronized
  have hAL : ∀ z9 : Nat, cA [(mm, .inr (3, [.int th, .int (nI d), .int (nI r), .int ld, .int pl, .ref ao, .ref al, .int li, .int tl, .int mo, .ref aw, .ref aq, .int mn]))] z9 → L0 ≤ z9 := fun z9 ⟨k9, e9, h9⟩ => hD0.2 k9 (z9, e9) h9
  have hD : va_D (cA [(mm, .inr (3, [.int th, .int (nI d), .int (nI r), .int ld, .int pl, .ref ao, .ref al, .int li, .int tl, .int mo, .ref aw, .ref aq, .int mn]))]) [(mm, .inr (3, [.int th, .int (nI d), .int (nI r), .int ld, .int pl, .ref ao, .ref al, .int li, .int tl, .int mo, .ref aw, .ref aq, .int mn]))] := ⟨hD0.1, fun k9 z9 h9 => cA_of h9⟩
  generalize hAe : cA [(mm, .inr (3, [.int th, .int (nI d), .int (nI r), .int ld, .int pl, .ref ao, .ref al, .int li, .int tl, .int mo, .ref aw, .ref aq, .int mn]))] = A at hD hAL ⊢
  have hS : va_S A s.heap s.heap [] := va_S.rf
  have hiX3 : ∀ w ∈ u_ws RX3 TX3 13, w ∈ wsX3_tonsLifted := by decide +kernel
  have hl := lv_entry ([.ref mm]) (n := 1) (Nat.le_of_ble_eq_true rfl)
  rw [lg_entry_eq]
  generalize (lg_sl ([.ref mm]) ++ List.replicate (1 - (lg_sl ([.ref mm])).length) Slot.unset).toArray = ls at hl ⊢
  have hl : lv_has ls 1 [(0, .ref mm)] := hl
  refine lv_aload_n hx hb dX3_tonsLifted_0 rfl (lv_at hl 0 rfl) ?_
  refine lv_aload_n hx hb dX3_tonsLifted_1 rfl (lv_at hl 0 rfl) ?_
  refine va_get (D := D) (ci := 3) (v := .int tl) (C := RX3) (T := TX3) (N := 13) hx hb hts hiX3 hown hK hP 0 rfl rfl 8 (by decide) (hts (.fieldLink RX3 81 "CraneReachModel" "tons" "I") (by decide +kernel)) (fun _ h9 => h9) rfl dX3_tonsLifted_2 ?_
  have hPc := hP.sub (ws' := [(mm, .inr (3, [.int th, .int (nI d), .int (nI r), .int ld, .int pl, .ref ao, .ref al, .int li, .int tl, .int mo, .ref aw, .ref aq, .int mn]))]) [0] rfl
  have hDc : va_D (fun q : Nat => L0 ≤ q) [(mm, .inr (3, [.int th, .int (nI d), .int (nI r), .int ld, .int pl, .ref ao, .ref al, .int li, .int tl, .int mo, .ref aw, .ref aq, .int mn]))] := (hD.sub (ws' := [(mm, .inr (3, [.int th, .int (nI d), .int (nI r), .int ld, .int pl, .ref ao, .ref al, .int li, .int tl, .int mo, .ref aw, .ref aq, .int mn]))]) [0] (by decide) rfl).weaken (fun _ z9 _ h9 => hAL _ h9)
  have hKc := hK.sub (tys' := []) [] rfl
  refine c_callB (va_runV (As := [.int tl]) (rest := []) ⟨hx, hb, hml, hown, hts⟩ (q_ok l D L0 mm ao al aw aq d r th ld pl li tl mo mn tl) (cwV 1 hts gX3_tonsLifted_X3_ok rfl rfl rfl (by decide +kernel) ⟨Nat.le_of_ble_eq_true rfl, Nat.le_of_ble_eq_true rfl⟩) ⟨cP_blind, va_recv hKc hPc (ci := 3) (q0 := 0) rfl rfl, cP_of hPc hKc hDc (kE_at hE0 hAL hS)⟩ rfl rfl hl.1 rfl (lv_room (Nat.le_of_ble_eq_true rfl)) dX3_tonsLifted_5 ⟨Nat.le_of_ble_eq_true rfl, Nat.le_of_ble_eq_true rfl⟩) hS (fun z9 _ ⟨k9, e9, h9⟩ => (hD.sub (ws' := [(mm, .inr (3, [.int th, .int (nI d), .int (nI r), .int ld, .int pl, .ref ao, .ref al, .int li, .int tl, .int mo, .ref aw, .ref aq, .int mn]))]) [0] (by decide) rfl).2 k9 (z9, e9) h9) (fun z9 ⟨k9, e9, h9⟩ => (hD.sub (ws' := [(mm, .inr (3, [.int th, .int (nI d), .int (nI r), .int ld, .int pl, .ref ao, .ref al, .int li, .int tl, .int mo, .ref aw, .ref aq, .int mn]))]) [0] (by decide) rfl).2 k9 (z9, e9) h9) (fun H1 locs hB hz1 hk1 hS => ?_)
  obtain ⟨hP, hD⟩ := c_join (ws' := [(mm, .inr (3, [.int 0, .int (nI d), .int (nI r), .int ld, .int pl, .ref ao, .ref al, .int li, .int tl, .int mo, .ref aw, .ref aq, .int mn]))]) (wr := []) (w1 := [(mm, .inr (3, [.int 0, .int (nI d), .int (nI r), .int ld, .int pl, .ref ao, .ref al, .int li, .int tl, .int mo, .ref aw, .ref aq, .int mn]))]) hP hD [0] [] [0] rfl rfl (by decide) (by decide) hk1 hB rfl rfl rfl (by decide)
  generalize H1 = H at hP hS ⊢
  show W _ _ _ _ _ _ _ _ _ _ _ _ _ _ _ (F0 m 8 ls [.int tl])
  exact W.iret (v := tl) hx hb hRt (fun t ht hW => ⟨⟨rfl, by rw [ht]; exact hP⟩, hS.F ht⟩) hS.2.2 dX3_tonsLifted_8
set_option maxHeartbeats 4000000 in
set_option maxRecDepth 100000 in
/-- movesWithLoad -/
theorem q_movesWithLoad (l : Launch) (D : va_G) (L0 : Nat) (mm ao al aw aq d r : Nat) (th ld pl li tl mo mn : Int32) : Met l yX3_movesWithLoad wsX3_movesWithLoad ({ frames := 1, cells := 0, slots := 0, locals := 21 }) (cP L0 D [] [(mm, .inr (3, [.int th, .int (nI d), .int (nI r), .int ld, .int pl, .ref ao, .ref al, .int li, .int tl, .int mo, .ref aw, .ref aq, .int mn]))] [.ref mm]) (cB (some (.int mo)) (fun H => va_P D vwCl [(mm, .inr (3, [.int 0, .int (nI d), .int (nI r), .int ld, .int pl, .ref ao, .ref al, .int li, .int tl, .int mo, .ref aw, .ref aq, .int mn]))] H) (cA [(mm, .inr (3, [.int th, .int (nI d), .int (nI r), .int ld, .int pl, .ref ao, .ref al, .int li, .int tl, .int mo, .ref aw, .ref aq, .int mn]))])) 0 0 (cA [(mm, .inr (3, [.int th, .int (nI d), .int (nI r), .int ld, .int pl, .ref ao, .ref al, .int li, .int tl, .int mo, .ref aw, .ref aq, .int mn]))]) := by
  refine Met.ofW (cc := cX3_movesWithLoad) (maxL := 1) (ret := (some .int)) (by decide) rfl ?_
  intro p e s m args below meth c s₁ B hml hv
  obtain ⟨rfl, hP, hK, hD0, hE0⟩ := hv
  have hx := B.exec
  have hb := B.bytes
  have hRt := B.returns
  have hts := atoms_spec (ws := wsX3_movesWithLoad) B.pre
  have hown : s.vm.findClass RX3 = some m.cls := findClass_of_methodNamed B.named
  have hlocks := B.notSynchronized
  have hAL : ∀ z9 : Nat, cA [(mm, .inr (3, [.int th, .int (nI d), .int (nI r), .int ld, .int pl, .ref ao, .ref al, .int li, .int tl, .int mo, .ref aw, .ref aq, .int mn]))] z9 → L0 ≤ z9 := fun z9 ⟨k9, e9, h9⟩ => hD0.2 k9 (z9, e9) h9
  have hD : va_D (cA [(mm, .inr (3, [.int th, .int (nI d), .int (nI r), .int ld, .int pl, .ref ao, .ref al, .int li, .int tl, .int mo, .ref aw, .ref aq, .int mn]))]) [(mm, .inr (3, [.int th, .int (nI d), .int (nI r), .int ld, .int pl, .ref ao, .ref al, .int li, .int tl, .int mo, .ref aw, .ref aq, .int mn]))] := ⟨hD0.1, fun k9 z9 h9 => cA_of h9⟩
  generalize hAe : cA [(mm, .inr (3, [.int th, .int (nI d), .int (nI r), .int ld, .int pl, .ref ao, .ref al, .int li, .int tl, .int mo, .ref aw, .ref aq, .int mn]))] = A at hD hAL ⊢
  have hS : va_S A s.heap s.heap [] := va_S.rf
  have hiX3 : ∀ w ∈ u_ws RX3 TX3 13, w ∈ wsX3_movesWithLoad := by decide +kernel
  have hl := lv_entry ([.ref mm]) (n := 1) (Nat.le_of_ble_eq_true rfl)
  rw [lg_entry_eq]
  generalize (lg_sl ([.ref mm]) ++ List.replicate (1 - (lg_sl ([.ref mm])).length) Slot.unset).toArray = ls at hl ⊢
  have hl : lv_has ls 1 [(0, .ref mm)] := hl
  refine lv_aload_n hx hb dX3_movesWithLoad_0 rfl (lv_at hl 0 rfl) ?_
  refine lv_aload_n hx hb dX3_movesWithLoad_1 rfl (lv_at hl 0 rfl) ?_
  refine va_get (D := D) (ci := 3) (v := .int mo) (C := RX3) (T := TX3) (N := 13) hx hb hts hiX3 hown hK hP 0 rfl rfl 9 (by decide) (hts (.fieldLink RX3 84 "CraneReachModel" "moves" "I") (by decide +kernel)) (fun _ h9 => h9) rfl dX3_movesWithLoad_2 ?_
  have hPc := hP.sub (ws' := [(mm, .inr (3, [.int th, .int (nI d), .int (nI r), .int ld, .int pl, .ref ao, .ref al, .int li, .int tl, .int mo, .ref aw, .ref aq, .int mn]))]) [0] rfl
  have hDc : va_D (fun q : Nat => L0 ≤ q) [(mm, .inr (3, [.int th, .int (nI d), .int (nI r), .int ld, .int pl, .ref ao, .ref al, .int li, .int tl, .int mo, .ref aw, .ref aq, .int mn]))] := (hD.sub (ws' := [(mm, .inr (3, [.int th, .int (nI d), .int (nI r), .int ld, .int pl, .ref ao, .ref al, .int li, .int tl, .int mo, .ref aw, .ref aq, .int mn]))]) [0] (by decide) rfl).weaken (fun _ z9 _ h9 => hAL _ h9)
  have hKc := hK.sub (tys' := []) [] rfl
  refine c_callB (va_runV (As := [.int mo]) (rest := []) ⟨hx, hb, hml, hown, hts⟩ (q_ok l D L0 mm ao al aw aq d r th ld pl li tl mo mn mo) (cwV 1 hts gX3_movesWithLoad_X3_ok rfl rfl rfl (by decide +kernel) ⟨Nat.le_of_ble_eq_true rfl, Nat.le_of_ble_eq_true rfl⟩) ⟨cP_blind, va_recv hKc hPc (ci := 3) (q0 := 0) rfl rfl, cP_of hPc hKc hDc (kE_at hE0 hAL hS)⟩ rfl rfl hl.1 rfl (lv_room (Nat.le_of_ble_eq_true rfl)) dX3_movesWithLoad_5 ⟨Nat.le_of_ble_eq_true rfl, Nat.le_of_ble_eq_true rfl⟩) hS (fun z9 _ ⟨k9, e9, h9⟩ => (hD.sub (ws' := [(mm, .inr (3, [.int th, .int (nI d), .int (nI r), .int ld, .int pl, .ref ao, .ref al, .int li, .int tl, .int mo, .ref aw, .ref aq, .int mn]))]) [0] (by decide) rfl).2 k9 (z9, e9) h9) (fun z9 ⟨k9, e9, h9⟩ => (hD.sub (ws' := [(mm, .inr (3, [.int th, .int (nI d), .int (nI r), .int ld, .int pl, .ref ao, .ref al, .int li, .int tl, .int mo, .ref aw, .ref aq, .int mn]))]) [0] (by decide) rfl).2 k9 (z9, e9) h9) (fun H1 locs hB hz1 hk1 hS => ?_)
  obtain ⟨hP, hD⟩ := c_join (ws' := [(mm, .inr (3, [.int 0, .int (nI d), .int (nI r), .int ld, .int pl, .ref ao, .ref al, .int li, .int tl, .int mo, .ref aw, .ref aq, .int mn]))]) (wr := []) (w1 := [(mm, .inr (3, [.int 0, .int (nI d), .int (nI r), .int ld, .int pl, .ref ao, .ref al, .int li, .int tl, .int mo, .ref aw, .ref aq, .int mn]))]) hP hD [0] [] [0] rfl rfl (by decide) (by decide) hk1 hB rfl rfl rfl (by decide)
  generalize H1 = H at hP hS ⊢
  show W _ _ _ _ _ _ _ _ _ _ _ _ _ _ _ (F0 m 8 ls [.int mo])
  exact W.iret (v := mo) hx hb hRt (fun t ht hW => ⟨⟨rfl, by rw [ht]; exact hP⟩, hS.F ht⟩) hS.2.2 dX3_movesWithLoad_8
set_option maxHeartbeats 4000000 in
set_option maxRecDepth 100000 in
/-- weakestSide -/
theorem q_weakestSide (l : Launch) (D : va_G) (L0 : Nat) (cI : ClassId) (mm ao al aw aq d r : Nat) (th ld pl li tl mo mn : Int32) (fo fl : Nat → Int32) (hd : d < 8) : Met l yX3_weakestSide wsX3_weakestSide ({ frames := 4, cells := 0, slots := 0, locals := 100 }) (cP L0 D [(cI, .int)] [(mm, .inr (3, [.int th, .int (nI d), .int (nI r), .int ld, .int pl, .ref ao, .ref al, .int li, .int tl, .int mo, .ref aw, .ref aq, .int mn])), (ao, .inl (cI, 4, .inl fo)), (al, .inl (cI, 31, .inl fl))] [.ref mm]) (cB (some (.int (nI (wkN (fun k => strS fo pl k ld d r) 4)))) (fun H => va_P D vwCl [(mm, .inr (3, [.int 0, .int (nI d), .int (nI r), .int ld, .int pl, .ref ao, .ref al, .int li, .int tl, .int mo, .ref aw, .ref aq, .int mn])), (ao, .inl (cI, 4, .inl fo)), (al, .inl (cI, 31, .inl fl))] H) (cA [(mm, .inr (3, [.int th, .int (nI d), .int (nI r), .int ld, .int pl, .ref ao, .ref al, .int li, .int tl, .int mo, .ref aw, .ref aq, .int mn])), (ao, .inl (cI, 4, .inl fo)), (al, .inl (cI, 31, .inl fl))])) 0 0 (cA [(mm, .inr (3, [.int th, .int (nI d), .int (nI r), .int ld, .int pl, .ref ao, .ref al, .int li, .int tl, .int mo, .ref aw, .ref aq, .int mn])), (ao, .inl (cI, 4, .inl fo)), (al, .inl (cI, 31, .inl fl))]) := by
  refine Met.ofW (cc := cX3_weakestSide) (maxL := 1) (ret := (some .int)) (by decide) rfl ?_
  intro p e s m args below meth c s₁ B hml hv
  obtain ⟨rfl, hP, hK, hD0, hE0⟩ := hv
  have hx := B.exec
  have hb := B.bytes
  have hRt := B.returns
  have hts := atoms_spec (ws := wsX3_weakestSide) B.pre
  have hown : s.vm.findClass RX3 = some m.cls := findClass_of_methodNamed B.named
  have hlocks := B.notSynchronized
  have hAL : ∀ z9 : Nat, cA [(mm, .inr (3, [.int th, .int (nI d), .int (nI r), .int ld, .int pl, .ref ao, .ref al, .int li, .int tl, .int mo, .ref aw, .ref aq, .int mn])), (ao, .inl (cI, 4, .inl fo)), (al, .inl (cI, 31, .inl fl))] z9 → L0 ≤ z9 := fun z9 ⟨k9, e9, h9⟩ => hD0.2 k9 (z9, e9) h9
  have hD : va_D (cA [(mm, .inr (3, [.int th, .int (nI d), .int (nI r), .int ld, .int pl, .ref ao, .ref al, .int li, .int tl, .int mo, .ref aw, .ref aq, .int mn])), (ao, .inl (cI, 4, .inl fo)), (al, .inl (cI, 31, .inl fl))]) [(mm, .inr (3, [.int th, .int (nI d), .int (nI r), .int ld, .int pl, .ref ao, .ref al, .int li, .int tl, .int mo, .ref aw, .ref aq, .int mn])), (ao, .inl (cI, 4, .inl fo)), (al, .inl (cI, 31, .inl fl))] := ⟨hD0.1, fun k9 z9 h9 => cA_of h9⟩
  generalize hAe : cA [(mm, .inr (3, [.int th, .int (nI d), .int (nI r), .int ld, .int pl, .ref ao, .ref al, .int li, .int tl, .int mo, .ref aw, .ref aq, .int mn])), (ao, .inl (cI, 4, .inl fo)), (al, .inl (cI, 31, .inl fl))] = A at hD hAL ⊢
  have hS : va_S A s.heap s.heap [] := va_S.rf
  have hiX3 : ∀ w ∈ u_ws RX3 TX3 13, w ∈ wsX3_weakestSide := by decide +kernel
  have hl := lv_entry ([.ref mm]) (n := 1) (Nat.le_of_ble_eq_true rfl)
  rw [lg_entry_eq]
  generalize (lg_sl ([.ref mm]) ++ List.replicate (1 - (lg_sl ([.ref mm])).length) Slot.unset).toArray = ls at hl ⊢
  have hl : lv_has ls 1 [(0, .ref mm)] := hl
  refine lv_aload_n hx hb dX3_weakestSide_0 rfl (lv_at hl 0 rfl) ?_
  refine lv_aload_n hx hb dX3_weakestSide_1 rfl (lv_at hl 0 rfl) ?_
  have hPc := hP.sub (ws' := [(mm, .inr (3, [.int th, .int (nI d), .int (nI r), .int ld, .int pl, .ref ao, .ref al, .int li, .int tl, .int mo, .ref aw, .ref aq, .int mn])), (ao, .inl (cI, 4, .inl fo)), (al, .inl (cI, 31, .inl fl))]) [0, 1, 2] rfl
  have hDc : va_D (fun q : Nat => L0 ≤ q) [(mm, .inr (3, [.int th, .int (nI d), .int (nI r), .int ld, .int pl, .ref ao, .ref al, .int li, .int tl, .int mo, .ref aw, .ref aq, .int mn])), (ao, .inl (cI, 4, .inl fo)), (al, .inl (cI, 31, .inl fl))] := (hD.sub (ws' := [(mm, .inr (3, [.int th, .int (nI d), .int (nI r), .int ld, .int pl, .ref ao, .ref al, .int li, .int tl, .int mo, .ref aw, .ref aq, .int mn])), (ao, .inl (cI, 4, .inl fo)), (al, .inl (cI, 31, .inl fl))]) [0, 1, 2] (by decide) rfl).weaken (fun _ z9 _ h9 => hAL _ h9)
  have hKc := hK.sub (tys' := [(cI, .int)]) [0] rfl
  refine c_callR (va_runV (As := []) (rest := [.ref mm]) ⟨hx, hb, hml, hown, hts⟩ (q_weakest l D L0 cI mm ao al aw aq d r th ld pl li tl mo mn fo fl hd) (cwV 0 hts gX3_weakestSide_X3_weakest rfl rfl rfl (by decide +kernel) ⟨Nat.le_of_ble_eq_true rfl, Nat.le_of_ble_eq_true rfl⟩) ⟨cP_blind, va_recv hKc hPc (ci := 3) (q0 := 0) rfl rfl, cP_of hPc hKc hDc (kE_at hE0 hAL hS)⟩ rfl rfl hl.1 rfl (lv_room (Nat.le_of_ble_eq_true rfl)) dX3_weakestSide_2 ⟨Nat.le_of_ble_eq_true rfl, Nat.le_of_ble_eq_true rfl⟩) ?_
  show W _ _ _ _ _ _ _ _ _ _ _ _ _ _ _ (F0 m 5 ls [.int (nI (wkN (fun k => strS fo pl k ld d r) 4)), .ref mm])
  have hPc := hP.sub (ws' := [(mm, .inr (3, [.int th, .int (nI d), .int (nI r), .int ld, .int pl, .ref ao, .ref al, .int li, .int tl, .int mo, .ref aw, .ref aq, .int mn]))]) [0] rfl
  have hDc : va_D (fun q : Nat => L0 ≤ q) [(mm, .inr (3, [.int th, .int (nI d), .int (nI r), .int ld, .int pl, .ref ao, .ref al, .int li, .int tl, .int mo, .ref aw, .ref aq, .int mn]))] := (hD.sub (ws' := [(mm, .inr (3, [.int th, .int (nI d), .int (nI r), .int ld, .int pl, .ref ao, .ref al, .int li, .int tl, .int mo, .ref aw, .ref aq, .int mn]))]) [0] (by decide) rfl).weaken (fun _ z9 _ h9 => hAL _ h9)
  have hKc := hK.sub (tys' := []) [] rfl
  refine c_callB (va_runV (As := [.int (nI (wkN (fun k => strS fo pl k ld d r) 4))]) (rest := []) ⟨hx, hb, hml, hown, hts⟩ (q_ok l D L0 mm ao al aw aq d r th ld pl li tl mo mn (nI (wkN (fun k => strS fo pl k ld d r) 4))) (cwV 1 hts gX3_weakestSide_X3_ok rfl rfl rfl (by decide +kernel) ⟨Nat.le_of_ble_eq_true rfl, Nat.le_of_ble_eq_true rfl⟩) ⟨cP_blind, va_recv hKc hPc (ci := 3) (q0 := 0) rfl rfl, cP_of hPc hKc hDc (kE_at hE0 hAL hS)⟩ rfl rfl hl.1 rfl (lv_room (Nat.le_of_ble_eq_true rfl)) dX3_weakestSide_5 ⟨Nat.le_of_ble_eq_true rfl, Nat.le_of_ble_eq_true rfl⟩) hS (fun z9 _ ⟨k9, e9, h9⟩ => (hD.sub (ws' := [(mm, .inr (3, [.int th, .int (nI d), .int (nI r), .int ld, .int pl, .ref ao, .ref al, .int li, .int tl, .int mo, .ref aw, .ref aq, .int mn]))]) [0] (by decide) rfl).2 k9 (z9, e9) h9) (fun z9 ⟨k9, e9, h9⟩ => (hD.sub (ws' := [(mm, .inr (3, [.int th, .int (nI d), .int (nI r), .int ld, .int pl, .ref ao, .ref al, .int li, .int tl, .int mo, .ref aw, .ref aq, .int mn]))]) [0] (by decide) rfl).2 k9 (z9, e9) h9) (fun H1 locs hB hz1 hk1 hS => ?_)
  obtain ⟨hP, hD⟩ := c_join (ws' := [(mm, .inr (3, [.int 0, .int (nI d), .int (nI r), .int ld, .int pl, .ref ao, .ref al, .int li, .int tl, .int mo, .ref aw, .ref aq, .int mn])), (ao, .inl (cI, 4, .inl fo)), (al, .inl (cI, 31, .inl fl))]) (wr := [(ao, .inl (cI, 4, .inl fo)), (al, .inl (cI, 31, .inl fl))]) (w1 := [(mm, .inr (3, [.int 0, .int (nI d), .int (nI r), .int ld, .int pl, .ref ao, .ref al, .int li, .int tl, .int mo, .ref aw, .ref aq, .int mn]))]) hP hD [0] [1, 2] [2, 0, 1] rfl rfl (by decide) (by decide) hk1 hB rfl rfl rfl (by decide)
  generalize H1 = H at hP hS ⊢
  show W _ _ _ _ _ _ _ _ _ _ _ _ _ _ _ (F0 m 8 ls [.int (nI (wkN (fun k => strS fo pl k ld d r) 4))])
  exact W.iret (v := (nI (wkN (fun k => strS fo pl k ld d r) 4))) hx hb hRt (fun t ht hW => ⟨⟨rfl, by rw [ht]; exact hP⟩, hS.F ht⟩) hS.2.2 dX3_weakestSide_8
set_option maxHeartbeats 4000000 in
set_option maxRecDepth 100000 in
/-- greatestLoad -/
theorem q_greatestLoad (l : Launch) (D : va_G) (L0 : Nat) (cI : ClassId) (mm ao al aw aq d r : Nat) (th ld pl li tl mo mn : Int32) (fo fl : Nat → Int32) (hd : d < 8) (hr : 3 ≤ r ∧ r ≤ 30) (hex : ∃ k, k ≤ 60 ∧ safS fo fl pl (nI k) d r = true) : Met l yX3_greatestLoad wsX3_greatestLoad ({ frames := 4, cells := 0, slots := 0, locals := 102 }) (cP L0 D [(cI, .int)] [(mm, .inr (3, [.int th, .int (nI d), .int (nI r), .int ld, .int pl, .ref ao, .ref al, .int li, .int tl, .int mo, .ref aw, .ref aq, .int mn])), (ao, .inl (cI, 4, .inl fo)), (al, .inl (cI, 31, .inl fl))] [.ref mm]) (cB (some (.int (nI (grN (fun k => safS fo fl pl (nI k) d r) 60)))) (fun H => va_P D vwCl [(mm, .inr (3, [.int 0, .int (nI d), .int (nI r), .int ld, .int pl, .ref ao, .ref al, .int li, .int tl, .int mo, .ref aw, .ref aq, .int mn])), (ao, .inl (cI, 4, .inl fo)), (al, .inl (cI, 31, .inl fl))] H) (cA [(mm, .inr (3, [.int th, .int (nI d), .int (nI r), .int ld, .int pl, .ref ao, .ref al, .int li, .int tl, .int mo, .ref aw, .ref aq, .int mn])), (ao, .inl (cI, 4, .inl fo)), (al, .inl (cI, 31, .inl fl))])) 0 0 (cA [(mm, .inr (3, [.int th, .int (nI d), .int (nI r), .int ld, .int pl, .ref ao, .ref al, .int li, .int tl, .int mo, .ref aw, .ref aq, .int mn])), (ao, .inl (cI, 4, .inl fo)), (al, .inl (cI, 31, .inl fl))]) := by
  refine Met.ofW (cc := cX3_greatestLoad) (maxL := 1) (ret := (some .int)) (by decide) rfl ?_
  intro p e s m args below meth c s₁ B hml hv
  obtain ⟨rfl, hP, hK, hD0, hE0⟩ := hv
  have hx := B.exec
  have hb := B.bytes
  have hRt := B.returns
  have hts := atoms_spec (ws := wsX3_greatestLoad) B.pre
  have hown : s.vm.findClass RX3 = some m.cls := findClass_of_methodNamed B.named
  have hlocks := B.notSynchronized
  have hAL : ∀ z9 : Nat, cA [(mm, .inr (3, [.int th, .int (nI d), .int (nI r), .int ld, .int pl, .ref ao, .ref al, .int li, .int tl, .int mo, .ref aw, .ref aq, .int mn])), (ao, .inl (cI, 4, .inl fo)), (al, .inl (cI, 31, .inl fl))] z9 → L0 ≤ z9 := fun z9 ⟨k9, e9, h9⟩ => hD0.2 k9 (z9, e9) h9
  have hD : va_D (cA [(mm, .inr (3, [.int th, .int (nI d), .int (nI r), .int ld, .int pl, .ref ao, .ref al, .int li, .int tl, .int mo, .ref aw, .ref aq, .int mn])), (ao, .inl (cI, 4, .inl fo)), (al, .inl (cI, 31, .inl fl))]) [(mm, .inr (3, [.int th, .int (nI d), .int (nI r), .int ld, .int pl, .ref ao, .ref al, .int li, .int tl, .int mo, .ref aw, .ref aq, .int mn])), (ao, .inl (cI, 4, .inl fo)), (al, .inl (cI, 31, .inl fl))] := ⟨hD0.1, fun k9 z9 h9 => cA_of h9⟩
  generalize hAe : cA [(mm, .inr (3, [.int th, .int (nI d), .int (nI r), .int ld, .int pl, .ref ao, .ref al, .int li, .int tl, .int mo, .ref aw, .ref aq, .int mn])), (ao, .inl (cI, 4, .inl fo)), (al, .inl (cI, 31, .inl fl))] = A at hD hAL ⊢
  have hS : va_S A s.heap s.heap [] := va_S.rf
  have hiX3 : ∀ w ∈ u_ws RX3 TX3 13, w ∈ wsX3_greatestLoad := by decide +kernel
  have hl := lv_entry ([.ref mm]) (n := 1) (Nat.le_of_ble_eq_true rfl)
  rw [lg_entry_eq]
  generalize (lg_sl ([.ref mm]) ++ List.replicate (1 - (lg_sl ([.ref mm])).length) Slot.unset).toArray = ls at hl ⊢
  have hl : lv_has ls 1 [(0, .ref mm)] := hl
  refine lv_aload_n hx hb dX3_greatestLoad_0 rfl (lv_at hl 0 rfl) ?_
  refine lv_aload_n hx hb dX3_greatestLoad_1 rfl (lv_at hl 0 rfl) ?_
  have hPc := hP.sub (ws' := [(mm, .inr (3, [.int th, .int (nI d), .int (nI r), .int ld, .int pl, .ref ao, .ref al, .int li, .int tl, .int mo, .ref aw, .ref aq, .int mn])), (ao, .inl (cI, 4, .inl fo)), (al, .inl (cI, 31, .inl fl))]) [0, 1, 2] rfl
  have hDc : va_D (fun q : Nat => L0 ≤ q) [(mm, .inr (3, [.int th, .int (nI d), .int (nI r), .int ld, .int pl, .ref ao, .ref al, .int li, .int tl, .int mo, .ref aw, .ref aq, .int mn])), (ao, .inl (cI, 4, .inl fo)), (al, .inl (cI, 31, .inl fl))] := (hD.sub (ws' := [(mm, .inr (3, [.int th, .int (nI d), .int (nI r), .int ld, .int pl, .ref ao, .ref al, .int li, .int tl, .int mo, .ref aw, .ref aq, .int mn])), (ao, .inl (cI, 4, .inl fo)), (al, .inl (cI, 31, .inl fl))]) [0, 1, 2] (by decide) rfl).weaken (fun _ z9 _ h9 => hAL _ h9)
  have hKc := hK.sub (tys' := [(cI, .int)]) [0] rfl
  refine c_callR (va_runV (As := []) (rest := [.ref mm]) ⟨hx, hb, hml, hown, hts⟩ (q_greatest l D L0 cI mm ao al aw aq d r th ld pl li tl mo mn fo fl hd hr hex) (cwV 0 hts gX3_greatestLoad_X3_greatest rfl rfl rfl (by decide +kernel) ⟨Nat.le_of_ble_eq_true rfl, Nat.le_of_ble_eq_true rfl⟩) ⟨cP_blind, va_recv hKc hPc (ci := 3) (q0 := 0) rfl rfl, cP_of hPc hKc hDc (kE_at hE0 hAL hS)⟩ rfl rfl hl.1 rfl (lv_room (Nat.le_of_ble_eq_true rfl)) dX3_greatestLoad_2 ⟨Nat.le_of_ble_eq_true rfl, Nat.le_of_ble_eq_true rfl⟩) ?_
  show W _ _ _ _ _ _ _ _ _ _ _ _ _ _ _ (F0 m 5 ls [.int (nI (grN (fun k => safS fo fl pl (nI k) d r) 60)), .ref mm])
  have hPc := hP.sub (ws' := [(mm, .inr (3, [.int th, .int (nI d), .int (nI r), .int ld, .int pl, .ref ao, .ref al, .int li, .int tl, .int mo, .ref aw, .ref aq, .int mn]))]) [0] rfl
  have hDc : va_D (fun q : Nat => L0 ≤ q) [(mm, .inr (3, [.int th, .int (nI d), .int (nI r), .int ld, .int pl, .ref ao, .ref al, .int li, .int tl, .int mo, .ref aw, .ref aq, .int mn]))] := (hD.sub (ws' := [(mm, .inr (3, [.int th, .int (nI d), .int (nI r), .int ld, .int pl, .ref ao, .ref al, .int li, .int tl, .int mo, .ref aw, .ref aq, .int mn]))]) [0] (by decide) rfl).weaken (fun _ z9 _ h9 => hAL _ h9)
  have hKc := hK.sub (tys' := []) [] rfl
  refine c_callB (va_runV (As := [.int (nI (grN (fun k => safS fo fl pl (nI k) d r) 60))]) (rest := []) ⟨hx, hb, hml, hown, hts⟩ (q_ok l D L0 mm ao al aw aq d r th ld pl li tl mo mn (nI (grN (fun k => safS fo fl pl (nI k) d r) 60))) (cwV 1 hts gX3_greatestLoad_X3_ok rfl rfl rfl (by decide +kernel) ⟨Nat.le_of_ble_eq_true rfl, Nat.le_of_ble_eq_true rfl⟩) ⟨cP_blind, va_recv hKc hPc (ci := 3) (q0 := 0) rfl rfl, cP_of hPc hKc hDc (kE_at hE0 hAL hS)⟩ rfl rfl hl.1 rfl (lv_room (Nat.le_of_ble_eq_true rfl)) dX3_greatestLoad_5 ⟨Nat.le_of_ble_eq_true rfl, Nat.le_of_ble_eq_true rfl⟩) hS (fun z9 _ ⟨k9, e9, h9⟩ => (hD.sub (ws' := [(mm, .inr (3, [.int th, .int (nI d), .int (nI r), .int ld, .int pl, .ref ao, .ref al, .int li, .int tl, .int mo, .ref aw, .ref aq, .int mn]))]) [0] (by decide) rfl).2 k9 (z9, e9) h9) (fun z9 ⟨k9, e9, h9⟩ => (hD.sub (ws' := [(mm, .inr (3, [.int th, .int (nI d), .int (nI r), .int ld, .int pl, .ref ao, .ref al, .int li, .int tl, .int mo, .ref aw, .ref aq, .int mn]))]) [0] (by decide) rfl).2 k9 (z9, e9) h9) (fun H1 locs hB hz1 hk1 hS => ?_)
  obtain ⟨hP, hD⟩ := c_join (ws' := [(mm, .inr (3, [.int 0, .int (nI d), .int (nI r), .int ld, .int pl, .ref ao, .ref al, .int li, .int tl, .int mo, .ref aw, .ref aq, .int mn])), (ao, .inl (cI, 4, .inl fo)), (al, .inl (cI, 31, .inl fl))]) (wr := [(ao, .inl (cI, 4, .inl fo)), (al, .inl (cI, 31, .inl fl))]) (w1 := [(mm, .inr (3, [.int 0, .int (nI d), .int (nI r), .int ld, .int pl, .ref ao, .ref al, .int li, .int tl, .int mo, .ref aw, .ref aq, .int mn]))]) hP hD [0] [1, 2] [2, 0, 1] rfl rfl (by decide) (by decide) hk1 hB rfl rfl rfl (by decide)
  generalize H1 = H at hP hS ⊢
  show W _ _ _ _ _ _ _ _ _ _ _ _ _ _ _ (F0 m 8 ls [.int (nI (grN (fun k => safS fo fl pl (nI k) d r) 60))])
  exact W.iret (v := (nI (grN (fun k => safS fo fl pl (nI k) d r) 60))) hx hb hRt (fun t ht hW => ⟨⟨rfl, by rw [ht]; exact hP⟩, hS.F ht⟩) hS.2.2 dX3_greatestLoad_8
set_option maxHeartbeats 4000000 in
set_option maxRecDepth 100000 in
/-- outrigger -/
theorem q_outrigger (l : Launch) (D : va_G) (L0 : Nat) (cI : ClassId) (mm ao al aw aq d r : Nat) (th ld pl li tl mo mn : Int32) (fo fl : Nat → Int32) (v : Int32) : Met l yX3_outrigger wsX3_outrigger ({ frames := 2, cells := 0, slots := 0, locals := 42 }) (cP L0 D [(cI, .int)] [(mm, .inr (3, [.int th, .int (nI d), .int (nI r), .int ld, .int pl, .ref ao, .ref al, .int li, .int tl, .int mo, .ref aw, .ref aq, .int mn])), (ao, .inl (cI, 4, .inl fo)), (al, .inl (cI, 31, .inl fl))] [.ref mm, .int v]) (cB (some (.int (if k1 (inR v 0 3) = 0 then fo v.toNatClampNeg else 0))) (fun H => va_P D vwCl [(mm, .inr (3, [.int (k1 (inR v 0 3)), .int (nI d), .int (nI r), .int ld, .int pl, .ref ao, .ref al, .int li, .int tl, .int mo, .ref aw, .ref aq, .int mn])), (ao, .inl (cI, 4, .inl fo)), (al, .inl (cI, 31, .inl fl))] H) (cA [(mm, .inr (3, [.int th, .int (nI d), .int (nI r), .int ld, .int pl, .ref ao, .ref al, .int li, .int tl, .int mo, .ref aw, .ref aq, .int mn])), (ao, .inl (cI, 4, .inl fo)), (al, .inl (cI, 31, .inl fl))])) 0 0 (cA [(mm, .inr (3, [.int th, .int (nI d), .int (nI r), .int ld, .int pl, .ref ao, .ref al, .int li, .int tl, .int mo, .ref aw, .ref aq, .int mn])), (ao, .inl (cI, 4, .inl fo)), (al, .inl (cI, 31, .inl fl))]) := by
  refine Met.ofW (cc := cX3_outrigger) (maxL := 2) (ret := (some .int)) (by decide) rfl ?_
  intro p e s m args below meth c s₁ B hml hv
  obtain ⟨rfl, hP, hK, hD0, hE0⟩ := hv
  have hx := B.exec
  have hb := B.bytes
  have hRt := B.returns
  have hts := atoms_spec (ws := wsX3_outrigger) B.pre
  have hown : s.vm.findClass RX3 = some m.cls := findClass_of_methodNamed B.named
  have hlocks := B.notSynchronized
  have hAL : ∀ z9 : Nat, cA [(mm, .inr (3, [.int th, .int (nI d), .int (nI r), .int ld, .int pl, .ref ao, .ref al, .int li, .int tl, .int mo, .ref aw, .ref aq, .int mn])), (ao, .inl (cI, 4, .inl fo)), (al, .inl (cI, 31, .inl fl))] z9 → L0 ≤ z9 := fun z9 ⟨k9, e9, h9⟩ => hD0.2 k9 (z9, e9) h9
  have hD : va_D (cA [(mm, .inr (3, [.int th, .int (nI d), .int (nI r), .int ld, .int pl, .ref ao, .ref al, .int li, .int tl, .int mo, .ref aw, .ref aq, .int mn])), (ao, .inl (cI, 4, .inl fo)), (al, .inl (cI, 31, .inl fl))]) [(mm, .inr (3, [.int th, .int (nI d), .int (nI r), .int ld, .int pl, .ref ao, .ref al, .int li, .int tl, .int mo, .ref aw, .ref aq, .int mn])), (ao, .inl (cI, 4, .inl fo)), (al, .inl (cI, 31, .inl fl))] := ⟨hD0.1, fun k9 z9 h9 => cA_of h9⟩
  generalize hAe : cA [(mm, .inr (3, [.int th, .int (nI d), .int (nI r), .int ld, .int pl, .ref ao, .ref al, .int li, .int tl, .int mo, .ref aw, .ref aq, .int mn])), (ao, .inl (cI, 4, .inl fo)), (al, .inl (cI, 31, .inl fl))] = A at hD hAL ⊢
  have hS : va_S A s.heap s.heap [] := va_S.rf
  have hiX3 : ∀ w ∈ u_ws RX3 TX3 13, w ∈ wsX3_outrigger := by decide +kernel
  have hl := lv_entry ([.ref mm, .int v]) (n := 2) (Nat.le_of_ble_eq_true rfl)
  rw [lg_entry_eq]
  generalize (lg_sl ([.ref mm, .int v]) ++ List.replicate (2 - (lg_sl ([.ref mm, .int v])).length) Slot.unset).toArray = ls at hl ⊢
  have hl : lv_has ls 2 [(0, .ref mm), (1, .int v)] := hl
  refine lv_aload_n hx hb dX3_outrigger_0 rfl (lv_at hl 0 rfl) ?_
  refine lv_iconst (v := 0) hx hb dX3_outrigger_1 (by decide) ?_
  refine va_put (D := D) (ci := 3) (v := .int 0) (ty := .int) (C := RX3) (T := TX3) (N := 13) hx hb hts hiX3 tyX3 tyX3_ok nmX3 hown hK hP hD hS 0 rfl rfl 0 (by decide) (hts (.fieldLink RX3 26 "CraneReachModel" "thrown" "I") (by decide +kernel)) (fun _ h9 => h9) rfl (by decide +kernel) rfl rfl (Nat.le_of_ble_eq_true rfl) dX3_outrigger_2 (fun H locs hP hD hS => ?_)
  have hP : va_P D vwCl [(mm, .inr (3, [.int 0, .int (nI d), .int (nI r), .int ld, .int pl, .ref ao, .ref al, .int li, .int tl, .int mo, .ref aw, .ref aq, .int mn])), (ao, .inl (cI, 4, .inl fo)), (al, .inl (cI, 31, .inl fl))] H := hP
  have hD : va_D A [(mm, .inr (3, [.int 0, .int (nI d), .int (nI r), .int ld, .int pl, .ref ao, .ref al, .int li, .int tl, .int mo, .ref aw, .ref aq, .int mn])), (ao, .inl (cI, 4, .inl fo)), (al, .inl (cI, 31, .inl fl))] := hD
  refine lv_iload_n hx hb dX3_outrigger_5 rfl (lv_at hl 1 rfl) ?_
  have hPc := hP.sub (ws' := []) [] rfl
  have hDc : va_D (fun q : Nat => L0 ≤ q) [] := (hD.sub (ws' := []) [] (by decide) rfl).weaken (fun _ z9 _ h9 => hAL _ h9)
  have hKc := hK.sub (tys' := []) [] rfl
  refine c_callR (va_runS (As := [.int v]) (rest := []) ⟨hx, hb, hml, hown, hts⟩ (q_isSide l D L0 v) (va_cwS 1 hts gX3_outrigger_X3_isSide rfl rfl rfl (by decide +kernel) ⟨Nat.le_of_ble_eq_true rfl, Nat.le_of_ble_eq_true rfl⟩) ⟨cP_blind, cP_of hPc hKc hDc (kE_at hE0 hAL hS)⟩ rfl rfl hl.1 rfl (lv_room (Nat.le_of_ble_eq_true rfl)) dX3_outrigger_6 ⟨Nat.le_of_ble_eq_true rfl, Nat.le_of_ble_eq_true rfl⟩) ?_
  show W _ _ _ _ _ _ _ _ _ _ _ _ _ _ _ (F0 m 9 ls [.int (bI (decide (0 ≤ v) && decide (v ≤ 3)))])
  obtain ⟨b_64, hbv_65⟩ : ∃ z9 : Bool, z9 = (decide (0 ≤ v) && decide (v ≤ 3)) := ⟨_, rfl⟩
  refine c_top (show (bI (decide (0 ≤ v) && decide (v ≤ 3))) = bI b_64 from by rw [hbv_65]) ?_
  refine lv_if_eq (tgt := 21) hx hb dX3_outrigger_9 (by decide) (fun c_66 => ?_) (fun c_66 => ?_)
  · have hn : ¬ (inR v 0 3) := fun hp => absurd c_66 (by rw [hbv_65]; simp [hp.1, hp.2, bI])
    refine lv_aload_n hx hb dX3_outrigger_21 rfl (lv_at hl 0 rfl) ?_
    refine lv_iconst (v := 1) hx hb dX3_outrigger_22 (by decide) ?_
    have hPc := hP.sub (ws' := [(mm, .inr (3, [.int 0, .int (nI d), .int (nI r), .int ld, .int pl, .ref ao, .ref al, .int li, .int tl, .int mo, .ref aw, .ref aq, .int mn]))]) [0] rfl
    have hDc : va_D (fun q : Nat => L0 ≤ q) [(mm, .inr (3, [.int 0, .int (nI d), .int (nI r), .int ld, .int pl, .ref ao, .ref al, .int li, .int tl, .int mo, .ref aw, .ref aq, .int mn]))] := (hD.sub (ws' := [(mm, .inr (3, [.int 0, .int (nI d), .int (nI r), .int ld, .int pl, .ref ao, .ref al, .int li, .int tl, .int mo, .ref aw, .ref aq, .int mn]))]) [0] (by decide) rfl).weaken (fun _ z9 _ h9 => hAL _ h9)
    have hKc := hK.sub (tys' := []) [] rfl
    refine c_callB (va_runV (As := [.int 1]) (rest := []) ⟨hx, hb, hml, hown, hts⟩ (q_no l D L0 mm ao al aw aq d r 0 ld pl li tl mo mn 1) (cwV 1 hts gX3_outrigger_X3_no rfl rfl rfl (by decide +kernel) ⟨Nat.le_of_ble_eq_true rfl, Nat.le_of_ble_eq_true rfl⟩) ⟨cP_blind, va_recv hKc hPc (ci := 3) (q0 := 0) rfl rfl, cP_of hPc hKc hDc (kE_at hE0 hAL hS)⟩ rfl rfl hl.1 rfl (lv_room (Nat.le_of_ble_eq_true rfl)) dX3_outrigger_23 ⟨Nat.le_of_ble_eq_true rfl, Nat.le_of_ble_eq_true rfl⟩) hS (fun z9 _ ⟨k9, e9, h9⟩ => (hD.sub (ws' := [(mm, .inr (3, [.int 0, .int (nI d), .int (nI r), .int ld, .int pl, .ref ao, .ref al, .int li, .int tl, .int mo, .ref aw, .ref aq, .int mn]))]) [0] (by decide) rfl).2 k9 (z9, e9) h9) (fun z9 ⟨k9, e9, h9⟩ => (hD.sub (ws' := [(mm, .inr (3, [.int 0, .int (nI d), .int (nI r), .int ld, .int pl, .ref ao, .ref al, .int li, .int tl, .int mo, .ref aw, .ref aq, .int mn]))]) [0] (by decide) rfl).2 k9 (z9, e9) h9) (fun H1 locs hB hz1 hk1 hS => ?_)
    obtain ⟨hP, hD⟩ := c_join (ws' := [(mm, .inr (3, [.int 1, .int (nI d), .int (nI r), .int ld, .int pl, .ref ao, .ref al, .int li, .int tl, .int mo, .ref aw, .ref aq, .int mn])), (ao, .inl (cI, 4, .inl fo)), (al, .inl (cI, 31, .inl fl))]) (wr := [(ao, .inl (cI, 4, .inl fo)), (al, .inl (cI, 31, .inl fl))]) (w1 := [(mm, .inr (3, [.int 1, .int (nI d), .int (nI r), .int ld, .int pl, .ref ao, .ref al, .int li, .int tl, .int mo, .ref aw, .ref aq, .int mn]))]) hP hD [0] [1, 2] [2, 0, 1] rfl rfl (by decide) (by decide) hk1 hB rfl rfl rfl (by decide)
    generalize H1 = H at hP hS ⊢
    show W _ _ _ _ _ _ _ _ _ _ _ _ _ _ _ (F0 m 26 ls [.int 0])
    have hK1 : k1 (inR v 0 3) = 1 := k1_no hn
    have hKn : ¬ k1 (inR v 0 3) = 0 := by rw [hK1]; decide
    exact W.iret (v := 0) hx hb hRt (fun t ht hW => ⟨⟨by simp only [if_neg hKn], by rw [ht]; exact (by rw [hK1]; exact hP)⟩, hS.F ht⟩) hS.2.2 dX3_outrigger_26
  · have hp : inR v 0 3 := by cases b_64 with | true => simpa using hbv_65.symm | false => exact absurd rfl c_66
    obtain ⟨kv, hkv, hv⟩ := inR_nI (n := 3) (by decide) hp
    have hvn : v.toNatClampNeg = kv := by rw [hv, nI_clamp (by omega)]
    have hl : lv_has ls 2 [(0, .ref mm), (1, .int (nI kv))] := (show v = nI kv from hv) ▸ hl
    refine lv_aload_n hx hb dX3_outrigger_12 rfl (lv_at hl 0 rfl) ?_
    refine va_get (D := D) (ci := 3) (v := .ref ao) (C := RX3) (T := TX3) (N := 13) hx hb hts hiX3 hown hK hP 0 rfl rfl 5 (by decide) (hts (.fieldLink RX3 13 "CraneReachModel" "out" "[I") (by decide +kernel)) (fun _ h9 => h9) rfl dX3_outrigger_13 ?_
    refine lv_iload_n hx hb dX3_outrigger_16 rfl (lv_at hl 1 rfl) ?_
    refine va_iald hx hb hK hP 1 0 rfl rfl (vp_in_nI (by omega) (by decide)) dX3_outrigger_17 ?_
    refine c_top (show (fo (nI kv).toNatClampNeg) = fo kv from by rw [nI_clamp (by omega)]) ?_
    refine lv_goto (tgt := 26) hx hb dX3_outrigger_18 (by decide) ?_
    have hK1 : k1 (inR v 0 3) = 0 := k1_yes hp
    exact W.iret (v := (fo kv)) hx hb hRt (fun t ht hW => ⟨⟨by simp only [if_pos hK1]; rw [hvn], by rw [ht]; exact (by rw [hK1]; exact hP)⟩, hS.F ht⟩) hS.2.2 dX3_outrigger_26
set_option maxHeartbeats 4000000 in
set_option maxRecDepth 100000 in
/-- limitAt -/
theorem q_limitAt (l : Launch) (D : va_G) (L0 : Nat) (cI : ClassId) (mm ao al aw aq d r : Nat) (th ld pl li tl mo mn : Int32) (fo fl : Nat → Int32) (v : Int32) : Met l yX3_limitAt wsX3_limitAt ({ frames := 2, cells := 0, slots := 0, locals := 42 }) (cP L0 D [(cI, .int)] [(mm, .inr (3, [.int th, .int (nI d), .int (nI r), .int ld, .int pl, .ref ao, .ref al, .int li, .int tl, .int mo, .ref aw, .ref aq, .int mn])), (ao, .inl (cI, 4, .inl fo)), (al, .inl (cI, 31, .inl fl))] [.ref mm, .int v]) (cB (some (.int (if k1 (inR v 3 30) = 0 then fl v.toNatClampNeg else 0))) (fun H => va_P D vwCl [(mm, .inr (3, [.int (k1 (inR v 3 30)), .int (nI d), .int (nI r), .int ld, .int pl, .ref ao, .ref al, .int li, .int tl, .int mo, .ref aw, .ref aq, .int mn])), (ao, .inl (cI, 4, .inl fo)), (al, .inl (cI, 31, .inl fl))] H) (cA [(mm, .inr (3, [.int th, .int (nI d), .int (nI r), .int ld, .int pl, .ref ao, .ref al, .int li, .int tl, .int mo, .ref aw, .ref aq, .int mn])), (ao, .inl (cI, 4, .inl fo)), (al, .inl (cI, 31, .inl fl))])) 0 0 (cA [(mm, .inr (3, [.int th, .int (nI d), .int (nI r), .int ld, .int pl, .ref ao, .ref al, .int li, .int tl, .int mo, .ref aw, .ref aq, .int mn])), (ao, .inl (cI, 4, .inl fo)), (al, .inl (cI, 31, .inl fl))]) := by
  refine Met.ofW (cc := cX3_limitAt) (maxL := 2) (ret := (some .int)) (by decide) rfl ?_
  intro p e s m args below meth c s₁ B hml hv
  obtain ⟨rfl, hP, hK, hD0, hE0⟩ := hv
  have hx := B.exec
  have hb := B.bytes
  have hRt := B.returns
  have hts := atoms_spec (ws := wsX3_limitAt) B.pre
  have hown : s.vm.findClass RX3 = some m.cls := findClass_of_methodNamed B.named
  have hlocks := B.notSynchronized
  have hAL : ∀ z9 : Nat, cA [(mm, .inr (3, [.int th, .int (nI d), .int (nI r), .int ld, .int pl, .ref ao, .ref al, .int li, .int tl, .int mo, .ref aw, .ref aq, .int mn])), (ao, .inl (cI, 4, .inl fo)), (al, .inl (cI, 31, .inl fl))] z9 → L0 ≤ z9 := fun z9 ⟨k9, e9, h9⟩ => hD0.2 k9 (z9, e9) h9
  have hD : va_D (cA [(mm, .inr (3, [.int th, .int (nI d), .int (nI r), .int ld, .int pl, .ref ao, .ref al, .int li, .int tl, .int mo, .ref aw, .ref aq, .int mn])), (ao, .inl (cI, 4, .inl fo)), (al, .inl (cI, 31, .inl fl))]) [(mm, .inr (3, [.int th, .int (nI d), .int (nI r), .int ld, .int pl, .ref ao, .ref al, .int li, .int tl, .int mo, .ref aw, .ref aq, .int mn])), (ao, .inl (cI, 4, .inl fo)), (al, .inl (cI, 31, .inl fl))] := ⟨hD0.1, fun k9 z9 h9 => cA_of h9⟩
  generalize hAe : cA [(mm, .inr (3, [.int th, .int (nI d), .int (nI r), .int ld, .int pl, .ref ao, .ref al, .int li, .int tl, .int mo, .ref aw, .ref aq, .int mn])), (ao, .inl (cI, 4, .inl fo)), (al, .inl (cI, 31, .inl fl))] = A at hD hAL ⊢
  have hS : va_S A s.heap s.heap [] := va_S.rf
  have hiX3 : ∀ w ∈ u_ws RX3 TX3 13, w ∈ wsX3_limitAt := by decide +kernel
  have hl := lv_entry ([.ref mm, .int v]) (n := 2) (Nat.le_of_ble_eq_true rfl)
  rw [lg_entry_eq]
  generalize (lg_sl ([.ref mm, .int v]) ++ List.replicate (2 - (lg_sl ([.ref mm, .int v])).length) Slot.unset).toArray = ls at hl ⊢
  have hl : lv_has ls 2 [(0, .ref mm), (1, .int v)] := hl
  refine lv_aload_n hx hb dX3_limitAt_0 rfl (lv_at hl 0 rfl) ?_
  refine lv_iconst (v := 0) hx hb dX3_limitAt_1 (by decide) ?_
  refine va_put (D := D) (ci := 3) (v := .int 0) (ty := .int) (C := RX3) (T := TX3) (N := 13) hx hb hts hiX3 tyX3 tyX3_ok nmX3 hown hK hP hD hS 0 rfl rfl 0 (by decide) (hts (.fieldLink RX3 26 "CraneReachModel" "thrown" "I") (by decide +kernel)) (fun _ h9 => h9) rfl (by decide +kernel) rfl rfl (Nat.le_of_ble_eq_true rfl) dX3_limitAt_2 (fun H locs hP hD hS => ?_)
  have hP : va_P D vwCl [(mm, .inr (3, [.int 0, .int (nI d), .int (nI r), .int ld, .int pl, .ref ao, .ref al, .int li, .int tl, .int mo, .ref aw, .ref aq, .int mn])), (ao, .inl (cI, 4, .inl fo)), (al, .inl (cI, 31, .inl fl))] H := hP
  have hD : va_D A [(mm, .inr (3, [.int 0, .int (nI d), .int (nI r), .int ld, .int pl, .ref ao, .ref al, .int li, .int tl, .int mo, .ref aw, .ref aq, .int mn])), (ao, .inl (cI, 4, .inl fo)), (al, .inl (cI, 31, .inl fl))] := hD
  refine lv_iload_n hx hb dX3_limitAt_5 rfl (lv_at hl 1 rfl) ?_
  have hPc := hP.sub (ws' := []) [] rfl
  have hDc : va_D (fun q : Nat => L0 ≤ q) [] := (hD.sub (ws' := []) [] (by decide) rfl).weaken (fun _ z9 _ h9 => hAL _ h9)
  have hKc := hK.sub (tys' := []) [] rfl
  refine c_callR (va_runS (As := [.int v]) (rest := []) ⟨hx, hb, hml, hown, hts⟩ (q_isReach l D L0 v) (va_cwS 1 hts gX3_limitAt_X3_isReach rfl rfl rfl (by decide +kernel) ⟨Nat.le_of_ble_eq_true rfl, Nat.le_of_ble_eq_true rfl⟩) ⟨cP_blind, cP_of hPc hKc hDc (kE_at hE0 hAL hS)⟩ rfl rfl hl.1 rfl (lv_room (Nat.le_of_ble_eq_true rfl)) dX3_limitAt_6 ⟨Nat.le_of_ble_eq_true rfl, Nat.le_of_ble_eq_true rfl⟩) ?_
  show W _ _ _ _ _ _ _ _ _ _ _ _ _ _ _ (F0 m 9 ls [.int (bI (decide (3 ≤ v) && decide (v ≤ 30)))])
  obtain ⟨b_67, hbv_68⟩ : ∃ z9 : Bool, z9 = (decide (3 ≤ v) && decide (v ≤ 30)) := ⟨_, rfl⟩
  refine c_top (show (bI (decide (3 ≤ v) && decide (v ≤ 30))) = bI b_67 from by rw [hbv_68]) ?_
  refine lv_if_eq (tgt := 21) hx hb dX3_limitAt_9 (by decide) (fun c_69 => ?_) (fun c_69 => ?_)
  · have hn : ¬ (inR v 3 30) := fun hp => absurd c_69 (by rw [hbv_68]; simp [hp.1, hp.2, bI])
    refine lv_aload_n hx hb dX3_limitAt_21 rfl (lv_at hl 0 rfl) ?_
    refine lv_iconst (v := 1) hx hb dX3_limitAt_22 (by decide) ?_
    have hPc := hP.sub (ws' := [(mm, .inr (3, [.int 0, .int (nI d), .int (nI r), .int ld, .int pl, .ref ao, .ref al, .int li, .int tl, .int mo, .ref aw, .ref aq, .int mn]))]) [0] rfl
    have hDc : va_D (fun q : Nat => L0 ≤ q) [(mm, .inr (3, [.int 0, .int (nI d), .int (nI r), .int ld, .int pl, .ref ao, .ref al, .int li, .int tl, .int mo, .ref aw, .ref aq, .int mn]))] := (hD.sub (ws' := [(mm, .inr (3, [.int 0, .int (nI d), .int (nI r), .int ld, .int pl, .ref ao, .ref al, .int li, .int tl, .int mo, .ref aw, .ref aq, .int mn]))]) [0] (by decide) rfl).weaken (fun _ z9 _ h9 => hAL _ h9)
    have hKc := hK.sub (tys' := []) [] rfl
    refine c_callB (va_runV (As := [.int 1]) (rest := []) ⟨hx, hb, hml, hown, hts⟩ (q_no l D L0 mm ao al aw aq d r 0 ld pl li tl mo mn 1) (cwV 1 hts gX3_limitAt_X3_no rfl rfl rfl (by decide +kernel) ⟨Nat.le_of_ble_eq_true rfl, Nat.le_of_ble_eq_true rfl⟩) ⟨cP_blind, va_recv hKc hPc (ci := 3) (q0 := 0) rfl rfl, cP_of hPc hKc hDc (kE_at hE0 hAL hS)⟩ rfl rfl hl.1 rfl (lv_room (Nat.le_of_ble_eq_true rfl)) dX3_limitAt_23 ⟨Nat.le_of_ble_eq_true rfl, Nat.le_of_ble_eq_true rfl⟩) hS (fun z9 _ ⟨k9, e9, h9⟩ => (hD.sub (ws' := [(mm, .inr (3, [.int 0, .int (nI d), .int (nI r), .int ld, .int pl, .ref ao, .ref al, .int li, .int tl, .int mo, .ref aw, .ref aq, .int mn]))]) [0] (by decide) rfl).2 k9 (z9, e9) h9) (fun z9 ⟨k9, e9, h9⟩ => (hD.sub (ws' := [(mm, .inr (3, [.int 0, .int (nI d), .int (nI r), .int ld, .int pl, .ref ao, .ref al, .int li, .int tl, .int mo, .ref aw, .ref aq, .int mn]))]) [0] (by decide) rfl).2 k9 (z9, e9) h9) (fun H1 locs hB hz1 hk1 hS => ?_)
    obtain ⟨hP, hD⟩ := c_join (ws' := [(mm, .inr (3, [.int 1, .int (nI d), .int (nI r), .int ld, .int pl, .ref ao, .ref al, .int li, .int tl, .int mo, .ref aw, .ref aq, .int mn])), (ao, .inl (cI, 4, .inl fo)), (al, .inl (cI, 31, .inl fl))]) (wr := [(ao, .inl (cI, 4, .inl fo)), (al, .inl (cI, 31, .inl fl))]) (w1 := [(mm, .inr (3, [.int 1, .int (nI d), .int (nI r), .int ld, .int pl, .ref ao, .ref al, .int li, .int tl, .int mo, .ref aw, .ref aq, .int mn]))]) hP hD [0] [1, 2] [2, 0, 1] rfl rfl (by decide) (by decide) hk1 hB rfl rfl rfl (by decide)
    generalize H1 = H at hP hS ⊢
    show W _ _ _ _ _ _ _ _ _ _ _ _ _ _ _ (F0 m 26 ls [.int 0])
    have hK1 : k1 (inR v 3 30) = 1 := k1_no hn
    have hKn : ¬ k1 (inR v 3 30) = 0 := by rw [hK1]; decide
    exact W.iret (v := 0) hx hb hRt (fun t ht hW => ⟨⟨by simp only [if_neg hKn], by rw [ht]; exact (by rw [hK1]; exact hP)⟩, hS.F ht⟩) hS.2.2 dX3_limitAt_26
  · have hp : inR v 3 30 := by cases b_67 with | true => simpa using hbv_68.symm | false => exact absurd rfl c_69
    obtain ⟨kv, hkv, hv⟩ := inR_n3 (n := 30) (by decide) hp
    have hvn : v.toNatClampNeg = kv := by rw [hv, nI_clamp (by omega)]
    have hl : lv_has ls 2 [(0, .ref mm), (1, .int (nI kv))] := (show v = nI kv from hv) ▸ hl
    refine lv_aload_n hx hb dX3_limitAt_12 rfl (lv_at hl 0 rfl) ?_
    refine va_get (D := D) (ci := 3) (v := .ref al) (C := RX3) (T := TX3) (N := 13) hx hb hts hiX3 hown hK hP 0 rfl rfl 6 (by decide) (hts (.fieldLink RX3 17 "CraneReachModel" "limit" "[I") (by decide +kernel)) (fun _ h9 => h9) rfl dX3_limitAt_13 ?_
    refine lv_iload_n hx hb dX3_limitAt_16 rfl (lv_at hl 1 rfl) ?_
    refine va_iald hx hb hK hP 2 0 rfl rfl (vp_in_nI (by omega) (by decide)) dX3_limitAt_17 ?_
    refine c_top (show (fl (nI kv).toNatClampNeg) = fl kv from by rw [nI_clamp (by omega)]) ?_
    refine lv_goto (tgt := 26) hx hb dX3_limitAt_18 (by decide) ?_
    have hK1 : k1 (inR v 3 30) = 0 := k1_yes hp
    exact W.iret (v := (fl kv)) hx hb hRt (fun t ht hW => ⟨⟨by simp only [if_pos hK1]; rw [hvn], by rw [ht]; exact (by rw [hK1]; exact hP)⟩, hS.F ht⟩) hS.2.2 dX3_limitAt_26
set_option maxHeartbeats 4000000 in
set_option maxRecDepth 100000 in
/-- strainOn -/
theorem q_strainOn (l : Launch) (D : va_G) (L0 : Nat) (cI : ClassId) (mm ao al aw aq d r : Nat) (th ld pl li tl mo mn : Int32) (fo fl : Nat → Int32) (v : Int32) (hd : d < 8) : Met l yX3_strainOn wsX3_strainOn ({ frames := 3, cells := 0, slots := 0, locals := 78 }) (cP L0 D [(cI, .int)] [(mm, .inr (3, [.int th, .int (nI d), .int (nI r), .int ld, .int pl, .ref ao, .ref al, .int li, .int tl, .int mo, .ref aw, .ref aq, .int mn])), (ao, .inl (cI, 4, .inl fo)), (al, .inl (cI, 31, .inl fl))] [.ref mm, .int v]) (cB (some (.int (if k1 (inR v 0 3) = 0 then strS fo pl v.toNatClampNeg ld d r else 0))) (fun H => va_P D vwCl [(mm, .inr (3, [.int (k1 (inR v 0 3)), .int (nI d), .int (nI r), .int ld, .int pl, .ref ao, .ref al, .int li, .int tl, .int mo, .ref aw, .ref aq, .int mn])), (ao, .inl (cI, 4, .inl fo)), (al, .inl (cI, 31, .inl fl))] H) (cA [(mm, .inr (3, [.int th, .int (nI d), .int (nI r), .int ld, .int pl, .ref ao, .ref al, .int li, .int tl, .int mo, .ref aw, .ref aq, .int mn])), (ao, .inl (cI, 4, .inl fo)), (al, .inl (cI, 31, .inl fl))])) 0 0 (cA [(mm, .inr (3, [.int th, .int (nI d), .int (nI r), .int ld, .int pl, .ref ao, .ref al, .int li, .int tl, .int mo, .ref aw, .ref aq, .int mn])), (ao, .inl (cI, 4, .inl fo)), (al, .inl (cI, 31, .inl fl))]) := by
  refine Met.ofW (cc := cX3_strainOn) (maxL := 2) (ret := (some .int)) (by decide) rfl ?_
  intro p e s m args below meth c s₁ B hml hv
  obtain ⟨rfl, hP, hK, hD0, hE0⟩ := hv
  have hx := B.exec
  have hb := B.bytes
  have hRt := B.returns
  have hts := atoms_spec (ws := wsX3_strainOn) B.pre
  have hown : s.vm.findClass RX3 = some m.cls := findClass_of_methodNamed B.named
  have hlocks := B.notSynchronized
  have hAL : ∀ z9 : Nat, cA [(mm, .inr (3, [.int th, .int (nI d), .int (nI r), .int ld, .int pl, .ref ao, .ref al, .int li, .int tl, .int mo, .ref aw, .ref aq, .int mn])), (ao, .inl (cI, 4, .inl fo)), (al, .inl (cI, 31, .inl fl))] z9 → L0 ≤ z9 := fun z9 ⟨k9, e9, h9⟩ => hD0.2 k9 (z9, e9) h9
  have hD : va_D (cA [(mm, .inr (3, [.int th, .int (nI d), .int (nI r), .int ld, .int pl, .ref ao, .ref al, .int li, .int tl, .int mo, .ref aw, .ref aq, .int mn])), (ao, .inl (cI, 4, .inl fo)), (al, .inl (cI, 31, .inl fl))]) [(mm, .inr (3, [.int th, .int (nI d), .int (nI r), .int ld, .int pl, .ref ao, .ref al, .int li, .int tl, .int mo, .ref aw, .ref aq, .int mn])), (ao, .inl (cI, 4, .inl fo)), (al, .inl (cI, 31, .inl fl))] := ⟨hD0.1, fun k9 z9 h9 => cA_of h9⟩
  generalize hAe : cA [(mm, .inr (3, [.int th, .int (nI d), .int (nI r), .int ld, .int pl, .ref ao, .ref al, .int li, .int tl, .int mo, .ref aw, .ref aq, .int mn])), (ao, .inl (cI, 4, .inl fo)), (al, .inl (cI, 31, .inl fl))] = A at hD hAL ⊢
  have hS : va_S A s.heap s.heap [] := va_S.rf
  have hiX3 : ∀ w ∈ u_ws RX3 TX3 13, w ∈ wsX3_strainOn := by decide +kernel
  have hl := lv_entry ([.ref mm, .int v]) (n := 2) (Nat.le_of_ble_eq_true rfl)
  rw [lg_entry_eq]
  generalize (lg_sl ([.ref mm, .int v]) ++ List.replicate (2 - (lg_sl ([.ref mm, .int v])).length) Slot.unset).toArray = ls at hl ⊢
  have hl : lv_has ls 2 [(0, .ref mm), (1, .int v)] := hl
  refine lv_aload_n hx hb dX3_strainOn_0 rfl (lv_at hl 0 rfl) ?_
  refine lv_iconst (v := 0) hx hb dX3_strainOn_1 (by decide) ?_
  refine va_put (D := D) (ci := 3) (v := .int 0) (ty := .int) (C := RX3) (T := TX3) (N := 13) hx hb hts hiX3 tyX3 tyX3_ok nmX3 hown hK hP hD hS 0 rfl rfl 0 (by decide) (hts (.fieldLink RX3 26 "CraneReachModel" "thrown" "I") (by decide +kernel)) (fun _ h9 => h9) rfl (by decide +kernel) rfl rfl (Nat.le_of_ble_eq_true rfl) dX3_strainOn_2 (fun H locs hP hD hS => ?_)
  have hP : va_P D vwCl [(mm, .inr (3, [.int 0, .int (nI d), .int (nI r), .int ld, .int pl, .ref ao, .ref al, .int li, .int tl, .int mo, .ref aw, .ref aq, .int mn])), (ao, .inl (cI, 4, .inl fo)), (al, .inl (cI, 31, .inl fl))] H := hP
  have hD : va_D A [(mm, .inr (3, [.int 0, .int (nI d), .int (nI r), .int ld, .int pl, .ref ao, .ref al, .int li, .int tl, .int mo, .ref aw, .ref aq, .int mn])), (ao, .inl (cI, 4, .inl fo)), (al, .inl (cI, 31, .inl fl))] := hD
  refine lv_iload_n hx hb dX3_strainOn_5 rfl (lv_at hl 1 rfl) ?_
  have hPc := hP.sub (ws' := []) [] rfl
  have hDc : va_D (fun q : Nat => L0 ≤ q) [] := (hD.sub (ws' := []) [] (by decide) rfl).weaken (fun _ z9 _ h9 => hAL _ h9)
  have hKc := hK.sub (tys' := []) [] rfl
  refine c_callR (va_runS (As := [.int v]) (rest := []) ⟨hx, hb, hml, hown, hts⟩ (q_isSide l D L0 v) (va_cwS 1 hts gX3_strainOn_X3_isSide rfl rfl rfl (by decide +kernel) ⟨Nat.le_of_ble_eq_true rfl, Nat.le_of_ble_eq_true rfl⟩) ⟨cP_blind, cP_of hPc hKc hDc (kE_at hE0 hAL hS)⟩ rfl rfl hl.1 rfl (lv_room (Nat.le_of_ble_eq_true rfl)) dX3_strainOn_6 ⟨Nat.le_of_ble_eq_true rfl, Nat.le_of_ble_eq_true rfl⟩) ?_
  show W _ _ _ _ _ _ _ _ _ _ _ _ _ _ _ (F0 m 9 ls [.int (bI (decide (0 ≤ v) && decide (v ≤ 3)))])
  obtain ⟨b_70, hbv_71⟩ : ∃ z9 : Bool, z9 = (decide (0 ≤ v) && decide (v ≤ 3)) := ⟨_, rfl⟩
  refine c_top (show (bI (decide (0 ≤ v) && decide (v ≤ 3))) = bI b_70 from by rw [hbv_71]) ?_
  refine lv_if_eq (tgt := 20) hx hb dX3_strainOn_9 (by decide) (fun c_72 => ?_) (fun c_72 => ?_)
  · have hn : ¬ (inR v 0 3) := fun hp => absurd c_72 (by rw [hbv_71]; simp [hp.1, hp.2, bI])
    refine lv_aload_n hx hb dX3_strainOn_20 rfl (lv_at hl 0 rfl) ?_
    refine lv_iconst (v := 1) hx hb dX3_strainOn_21 (by decide) ?_
    have hPc := hP.sub (ws' := [(mm, .inr (3, [.int 0, .int (nI d), .int (nI r), .int ld, .int pl, .ref ao, .ref al, .int li, .int tl, .int mo, .ref aw, .ref aq, .int mn]))]) [0] rfl
    have hDc : va_D (fun q : Nat => L0 ≤ q) [(mm, .inr (3, [.int 0, .int (nI d), .int (nI r), .int ld, .int pl, .ref ao, .ref al, .int li, .int tl, .int mo, .ref aw, .ref aq, .int mn]))] := (hD.sub (ws' := [(mm, .inr (3, [.int 0, .int (nI d), .int (nI r), .int ld, .int pl, .ref ao, .ref al, .int li, .int tl, .int mo, .ref aw, .ref aq, .int mn]))]) [0] (by decide) rfl).weaken (fun _ z9 _ h9 => hAL _ h9)
    have hKc := hK.sub (tys' := []) [] rfl
    refine c_callB (va_runV (As := [.int 1]) (rest := []) ⟨hx, hb, hml, hown, hts⟩ (q_no l D L0 mm ao al aw aq d r 0 ld pl li tl mo mn 1) (cwV 1 hts gX3_strainOn_X3_no rfl rfl rfl (by decide +kernel) ⟨Nat.le_of_ble_eq_true rfl, Nat.le_of_ble_eq_true rfl⟩) ⟨cP_blind, va_recv hKc hPc (ci := 3) (q0 := 0) rfl rfl, cP_of hPc hKc hDc (kE_at hE0 hAL hS)⟩ rfl rfl hl.1 rfl (lv_room (Nat.le_of_ble_eq_true rfl)) dX3_strainOn_22 ⟨Nat.le_of_ble_eq_true rfl, Nat.le_of_ble_eq_true rfl⟩) hS (fun z9 _ ⟨k9, e9, h9⟩ => (hD.sub (ws' := [(mm, .inr (3, [.int 0, .int (nI d), .int (nI r), .int ld, .int pl, .ref ao, .ref al, .int li, .int tl, .int mo, .ref aw, .ref aq, .int mn]))]) [0] (by decide) rfl).2 k9 (z9, e9) h9) (fun z9 ⟨k9, e9, h9⟩ => (hD.sub (ws' := [(mm, .inr (3, [.int 0, .int (nI d), .int (nI r), .int ld, .int pl, .ref ao, .ref al, .int li, .int tl, .int mo, .ref aw, .ref aq, .int mn]))]) [0] (by decide) rfl).2 k9 (z9, e9) h9) (fun H1 locs hB hz1 hk1 hS => ?_)
    obtain ⟨hP, hD⟩ := c_join (ws' := [(mm, .inr (3, [.int 1, .int (nI d), .int (nI r), .int ld, .int pl, .ref ao, .ref al, .int li, .int tl, .int mo, .ref aw, .ref aq, .int mn])), (ao, .inl (cI, 4, .inl fo)), (al, .inl (cI, 31, .inl fl))]) (wr := [(ao, .inl (cI, 4, .inl fo)), (al, .inl (cI, 31, .inl fl))]) (w1 := [(mm, .inr (3, [.int 1, .int (nI d), .int (nI r), .int ld, .int pl, .ref ao, .ref al, .int li, .int tl, .int mo, .ref aw, .ref aq, .int mn]))]) hP hD [0] [1, 2] [2, 0, 1] rfl rfl (by decide) (by decide) hk1 hB rfl rfl rfl (by decide)
    generalize H1 = H at hP hS ⊢
    show W _ _ _ _ _ _ _ _ _ _ _ _ _ _ _ (F0 m 25 ls [.int 0])
    have hK1 : k1 (inR v 0 3) = 1 := k1_no hn
    have hKn : ¬ k1 (inR v 0 3) = 0 := by rw [hK1]; decide
    exact W.iret (v := 0) hx hb hRt (fun t ht hW => ⟨⟨by simp only [if_neg hKn], by rw [ht]; exact (by rw [hK1]; exact hP)⟩, hS.F ht⟩) hS.2.2 dX3_strainOn_25
  · have hp : inR v 0 3 := by cases b_70 with | true => simpa using hbv_71.symm | false => exact absurd rfl c_72
    obtain ⟨kv, hkv, hv⟩ := inR_nI (n := 3) (by decide) hp
    have hvn : v.toNatClampNeg = kv := by rw [hv, nI_clamp (by omega)]
    have hl : lv_has ls 2 [(0, .ref mm), (1, .int (nI kv))] := (show v = nI kv from hv) ▸ hl
    refine lv_aload_n hx hb dX3_strainOn_12 rfl (lv_at hl 0 rfl) ?_
    refine lv_iload_n hx hb dX3_strainOn_13 rfl (lv_at hl 1 rfl) ?_
    have hPc := hP.sub (ws' := [(mm, .inr (3, [.int 0, .int (nI d), .int (nI r), .int ld, .int pl, .ref ao, .ref al, .int li, .int tl, .int mo, .ref aw, .ref aq, .int mn])), (ao, .inl (cI, 4, .inl fo)), (al, .inl (cI, 31, .inl fl))]) [0, 1, 2] rfl
    have hDc : va_D (fun q : Nat => L0 ≤ q) [(mm, .inr (3, [.int 0, .int (nI d), .int (nI r), .int ld, .int pl, .ref ao, .ref al, .int li, .int tl, .int mo, .ref aw, .ref aq, .int mn])), (ao, .inl (cI, 4, .inl fo)), (al, .inl (cI, 31, .inl fl))] := (hD.sub (ws' := [(mm, .inr (3, [.int 0, .int (nI d), .int (nI r), .int ld, .int pl, .ref ao, .ref al, .int li, .int tl, .int mo, .ref aw, .ref aq, .int mn])), (ao, .inl (cI, 4, .inl fo)), (al, .inl (cI, 31, .inl fl))]) [0, 1, 2] (by decide) rfl).weaken (fun _ z9 _ h9 => hAL _ h9)
    have hKc := hK.sub (tys' := [(cI, .int)]) [0] rfl
    refine c_callR (va_runV (As := [.int (nI kv)]) (rest := []) ⟨hx, hb, hml, hown, hts⟩ (q_strainNow l D L0 cI mm ao al aw aq d r 0 ld pl li tl mo mn fo fl kv (by omega) hd) (cwV 1 hts gX3_strainOn_X3_strainNow rfl rfl rfl (by decide +kernel) ⟨Nat.le_of_ble_eq_true rfl, Nat.le_of_ble_eq_true rfl⟩) ⟨cP_blind, va_recv hKc hPc (ci := 3) (q0 := 0) rfl rfl, cP_of hPc hKc hDc (kE_at hE0 hAL hS)⟩ rfl rfl hl.1 rfl (lv_room (Nat.le_of_ble_eq_true rfl)) dX3_strainOn_14 ⟨Nat.le_of_ble_eq_true rfl, Nat.le_of_ble_eq_true rfl⟩) ?_
    show W _ _ _ _ _ _ _ _ _ _ _ _ _ _ _ (F0 m 17 ls [.int (strS fo pl kv ld d r)])
    refine lv_goto (tgt := 25) hx hb dX3_strainOn_17 (by decide) ?_
    have hK1 : k1 (inR v 0 3) = 0 := k1_yes hp
    exact W.iret (v := (strS fo pl kv ld d r)) hx hb hRt (fun t ht hW => ⟨⟨by simp only [if_pos hK1]; rw [hvn], by rw [ht]; exact (by rw [hK1]; exact hP)⟩, hS.F ht⟩) hS.2.2 dX3_strainOn_25
set_option maxHeartbeats 4000000 in
set_option maxRecDepth 100000 in
/-- isSafeWith -/
theorem q_isSafeWith (l : Launch) (D : va_G) (L0 : Nat) (cI : ClassId) (mm ao al aw aq d r : Nat) (th ld pl li tl mo mn : Int32) (fo fl : Nat → Int32) (u v z : Int32) : Met l yX3_isSafeWith wsX3_isSafeWith ({ frames := 3, cells := 0, slots := 0, locals := 81 }) (cP L0 D [(cI, .int)] [(mm, .inr (3, [.int th, .int (nI d), .int (nI r), .int ld, .int pl, .ref ao, .ref al, .int li, .int tl, .int mo, .ref aw, .ref aq, .int mn])), (ao, .inl (cI, 4, .inl fo)), (al, .inl (cI, 31, .inl fl))] [.ref mm, .int u, .int v, .int z]) (cB (some (.int (if k2 (inR v 0 7) (inR u 0 60 ∧ inR z 3 30) = 0 then bI (safS fo fl pl u v.toNatClampNeg z.toNatClampNeg) else 0))) (fun H => va_P D vwCl [(mm, .inr (3, [.int (k2 (inR v 0 7) (inR u 0 60 ∧ inR z 3 30)), .int (nI d), .int (nI r), .int ld, .int pl, .ref ao, .ref al, .int li, .int tl, .int mo, .ref aw, .ref aq, .int mn])), (ao, .inl (cI, 4, .inl fo)), (al, .inl (cI, 31, .inl fl))] H) (cA [(mm, .inr (3, [.int th, .int (nI d), .int (nI r), .int ld, .int pl, .ref ao, .ref al, .int li, .int tl, .int mo, .ref aw, .ref aq, .int mn])), (ao, .inl (cI, 4, .inl fo)), (al, .inl (cI, 31, .inl fl))])) 0 0 (cA [(mm, .inr (3, [.int th, .int (nI d), .int (nI r), .int ld, .int pl, .ref ao, .ref al, .int li, .int tl, .int mo, .ref aw, .ref aq, .int mn])), (ao, .inl (cI, 4, .inl fo)), (al, .inl (cI, 31, .inl fl))]) := by
  refine Met.ofW (cc := cX3_isSafeWith) (maxL := 4) (ret := (some .boolean)) (by decide) rfl ?_
  intro p e s m args below meth c s₁ B hml hv
  obtain ⟨rfl, hP, hK, hD0, hE0⟩ := hv
  have hx := B.exec
  have hb := B.bytes
  have hRt := B.returns
  have hts := atoms_spec (ws := wsX3_isSafeWith) B.pre
  have hown : s.vm.findClass RX3 = some m.cls := findClass_of_methodNamed B.named
  have hlocks := B.notSynchronized
  have hAL : ∀ z9 : Nat, cA [(mm, .inr (3, [.int th, .int (nI d), .int (nI r), .int ld, .int pl, .ref ao, .ref al, .int li, .int tl, .int mo, .ref aw, .ref aq, .int mn])), (ao, .inl (cI, 4, .inl fo)), (al, .inl (cI, 31, .inl fl))] z9 → L0 ≤ z9 := fun z9 ⟨k9, e9, h9⟩ => hD0.2 k9 (z9, e9) h9
  have hD : va_D (cA [(mm, .inr (3, [.int th, .int (nI d), .int (nI r), .int ld, .int pl, .ref ao, .ref al, .int li, .int tl, .int mo, .ref aw, .ref aq, .int mn])), (ao, .inl (cI, 4, .inl fo)), (al, .inl (cI, 31, .inl fl))]) [(mm, .inr (3, [.int th, .int (nI d), .int (nI r), .int ld, .int pl, .ref ao, .ref al, .int li, .int tl, .int mo, .ref aw, .ref aq, .int mn])), (ao, .inl (cI, 4, .inl fo)), (al, .inl (cI, 31, .inl fl))] := ⟨hD0.1, fun k9 z9 h9 => cA_of h9⟩
  generalize hAe : cA [(mm, .inr (3, [.int th, .int (nI d), .int (nI r), .int ld, .int pl, .ref ao, .ref al, .int li, .int tl, .int mo, .ref aw, .ref aq, .int mn])), (ao, .inl (cI, 4, .inl fo)), (al, .inl (cI, 31, .inl fl))] = A at hD hAL ⊢
  have hS : va_S A s.heap s.heap [] := va_S.rf
  have hiX3 : ∀ w ∈ u_ws RX3 TX3 13, w ∈ wsX3_isSafeWith := by decide +kernel
  have hl := lv_entry ([.ref mm, .int u, .int v, .int z]) (n := 4) (Nat.le_of_ble_eq_true rfl)
  rw [lg_entry_eq]
  generalize (lg_sl ([.ref mm, .int u, .int v, .int z]) ++ List.replicate (4 - (lg_sl ([.ref mm, .int u, .int v, .int z])).length) Slot.unset).toArray = ls at hl ⊢
  have hl : lv_has ls 4 [(0, .ref mm), (1, .int u), (2, .int v), (3, .int z)] := hl
  refine lv_aload_n hx hb dX3_isSafeWith_0 rfl (lv_at hl 0 rfl) ?_
  refine lv_iconst (v := 0) hx hb dX3_isSafeWith_1 (by decide) ?_
  refine va_put (D := D) (ci := 3) (v := .int 0) (ty := .int) (C := RX3) (T := TX3) (N := 13) hx hb hts hiX3 tyX3 tyX3_ok nmX3 hown hK hP hD hS 0 rfl rfl 0 (by decide) (hts (.fieldLink RX3 26 "CraneReachModel" "thrown" "I") (by decide +kernel)) (fun _ h9 => h9) rfl (by decide +kernel) rfl rfl (Nat.le_of_ble_eq_true rfl) dX3_isSafeWith_2 (fun H locs hP hD hS => ?_)
  have hP : va_P D vwCl [(mm, .inr (3, [.int 0, .int (nI d), .int (nI r), .int ld, .int pl, .ref ao, .ref al, .int li, .int tl, .int mo, .ref aw, .ref aq, .int mn])), (ao, .inl (cI, 4, .inl fo)), (al, .inl (cI, 31, .inl fl))] H := hP
  have hD : va_D A [(mm, .inr (3, [.int 0, .int (nI d), .int (nI r), .int ld, .int pl, .ref ao, .ref al, .int li, .int tl, .int mo, .ref aw, .ref aq, .int mn])), (ao, .inl (cI, 4, .inl fo)), (al, .inl (cI, 31, .inl fl))] := hD
  refine lv_iload_n hx hb dX3_isSafeWith_5 rfl (lv_at hl 2 rfl) ?_
  have hPc := hP.sub (ws' := []) [] rfl
  have hDc : va_D (fun q : Nat => L0 ≤ q) [] := (hD.sub (ws' := []) [] (by decide) rfl).weaken (fun _ z9 _ h9 => hAL _ h9)
  have hKc := hK.sub (tys' := []) [] rfl
  refine c_callR (va_runS (As := [.int v]) (rest := []) ⟨hx, hb, hml, hown, hts⟩ (q_isDirection l D L0 v) (va_cwS 1 hts gX3_isSafeWith_X3_isDirection rfl rfl rfl (by decide +kernel) ⟨Nat.le_of_ble_eq_true rfl, Nat.le_of_ble_eq_true rfl⟩) ⟨cP_blind, cP_of hPc hKc hDc (kE_at hE0 hAL hS)⟩ rfl rfl hl.1 rfl (lv_room (Nat.le_of_ble_eq_true rfl)) dX3_isSafeWith_6 ⟨Nat.le_of_ble_eq_true rfl, Nat.le_of_ble_eq_true rfl⟩) ?_
  show W _ _ _ _ _ _ _ _ _ _ _ _ _ _ _ (F0 m 9 ls [.int (bI (decide (0 ≤ v) && decide (v ≤ 7)))])
  obtain ⟨b_73, hbv_74⟩ : ∃ z9 : Bool, z9 = (decide (0 ≤ v) && decide (v ≤ 7)) := ⟨_, rfl⟩
  refine c_top (show (bI (decide (0 ≤ v) && decide (v ≤ 7))) = bI b_73 from by rw [hbv_74]) ?_
  refine lv_if_ne (tgt := 18) hx hb dX3_isSafeWith_9 (by decide) (fun c_75 => ?_) (fun c_75 => ?_)
  · have hp1 : inR v 0 7 := by cases b_73 with | true => simpa using hbv_74.symm | false => exact absurd rfl c_75
    refine lv_iload_n hx hb dX3_isSafeWith_18 rfl (lv_at hl 1 rfl) ?_
    have hPc := hP.sub (ws' := []) [] rfl
    have hDc : va_D (fun q : Nat => L0 ≤ q) [] := (hD.sub (ws' := []) [] (by decide) rfl).weaken (fun _ z9 _ h9 => hAL _ h9)
    have hKc := hK.sub (tys' := []) [] rfl
    refine c_callR (va_runS (As := [.int u]) (rest := []) ⟨hx, hb, hml, hown, hts⟩ (q_isLoad l D L0 u) (va_cwS 1 hts gX3_isSafeWith_X3_isLoad rfl rfl rfl (by decide +kernel) ⟨Nat.le_of_ble_eq_true rfl, Nat.le_of_ble_eq_true rfl⟩) ⟨cP_blind, cP_of hPc hKc hDc (kE_at hE0 hAL hS)⟩ rfl rfl hl.1 rfl (lv_room (Nat.le_of_ble_eq_true rfl)) dX3_isSafeWith_19 ⟨Nat.le_of_ble_eq_true rfl, Nat.le_of_ble_eq_true rfl⟩) ?_
    show W _ _ _ _ _ _ _ _ _ _ _ _ _ _ _ (F0 m 22 ls [.int (bI (decide (0 ≤ u) && decide (u ≤ 60)))])
    obtain ⟨b_76, hbv_77⟩ : ∃ z9 : Bool, z9 = (decide (0 ≤ u) && decide (u ≤ 60)) := ⟨_, rfl⟩
    refine c_top (show (bI (decide (0 ≤ u) && decide (u ≤ 60))) = bI b_76 from by rw [hbv_77]) ?_
    refine lv_if_eq (tgt := 42) hx hb dX3_isSafeWith_22 (by decide) (fun c_78 => ?_) (fun c_78 => ?_)
    · have hn : ¬ (inR u 0 60) := fun hp => absurd c_78 (by rw [hbv_77]; simp [hp.1, hp.2, bI])
      refine lv_aload_n hx hb dX3_isSafeWith_42 rfl (lv_at hl 0 rfl) ?_
      refine lv_iconst (v := 2) hx hb dX3_isSafeWith_43 (by decide) ?_
      have hPc := hP.sub (ws' := [(mm, .inr (3, [.int 0, .int (nI d), .int (nI r), .int ld, .int pl, .ref ao, .ref al, .int li, .int tl, .int mo, .ref aw, .ref aq, .int mn]))]) [0] rfl
      have hDc : va_D (fun q : Nat => L0 ≤ q) [(mm, .inr (3, [.int 0, .int (nI d), .int (nI r), .int ld, .int pl, .ref ao, .ref al, .int li, .int tl, .int mo, .ref aw, .ref aq, .int mn]))] := (hD.sub (ws' := [(mm, .inr (3, [.int 0, .int (nI d), .int (nI r), .int ld, .int pl, .ref ao, .ref al, .int li, .int tl, .int mo, .ref aw, .ref aq, .int mn]))]) [0] (by decide) rfl).weaken (fun _ z9 _ h9 => hAL _ h9)
      have hKc := hK.sub (tys' := []) [] rfl
      refine c_callB (va_runV (As := [.int 2]) (rest := []) ⟨hx, hb, hml, hown, hts⟩ (q_isNot l D L0 mm ao al aw aq d r 0 ld pl li tl mo mn 2) (cwV 1 hts gX3_isSafeWith_X3_isNot rfl rfl rfl (by decide +kernel) ⟨Nat.le_of_ble_eq_true rfl, Nat.le_of_ble_eq_true rfl⟩) ⟨cP_blind, va_recv hKc hPc (ci := 3) (q0 := 0) rfl rfl, cP_of hPc hKc hDc (kE_at hE0 hAL hS)⟩ rfl rfl hl.1 rfl (lv_room (Nat.le_of_ble_eq_true rfl)) dX3_isSafeWith_44 ⟨Nat.le_of_ble_eq_true rfl, Nat.le_of_ble_eq_true rfl⟩) hS (fun z9 _ ⟨k9, e9, h9⟩ => (hD.sub (ws' := [(mm, .inr (3, [.int 0, .int (nI d), .int (nI r), .int ld, .int pl, .ref ao, .ref al, .int li, .int tl, .int mo, .ref aw, .ref aq, .int mn]))]) [0] (by decide) rfl).2 k9 (z9, e9) h9) (fun z9 ⟨k9, e9, h9⟩ => (hD.sub (ws' := [(mm, .inr (3, [.int 0, .int (nI d), .int (nI r), .int ld, .int pl, .ref ao, .ref al, .int li, .int tl, .int mo, .ref aw, .ref aq, .int mn]))]) [0] (by decide) rfl).2 k9 (z9, e9) h9) (fun H1 locs hB hz1 hk1 hS => ?_)
      obtain ⟨hP, hD⟩ := c_join (ws' := [(mm, .inr (3, [.int 2, .int (nI d), .int (nI r), .int ld, .int pl, .ref ao, .ref al, .int li, .int tl, .int mo, .ref aw, .ref aq, .int mn])), (ao, .inl (cI, 4, .inl fo)), (al, .inl (cI, 31, .inl fl))]) (wr := [(ao, .inl (cI, 4, .inl fo)), (al, .inl (cI, 31, .inl fl))]) (w1 := [(mm, .inr (3, [.int 2, .int (nI d), .int (nI r), .int ld, .int pl, .ref ao, .ref al, .int li, .int tl, .int mo, .ref aw, .ref aq, .int mn]))]) hP hD [0] [1, 2] [2, 0, 1] rfl rfl (by decide) (by decide) hk1 hB rfl rfl rfl (by decide)
      generalize H1 = H at hP hS ⊢
      show W _ _ _ _ _ _ _ _ _ _ _ _ _ _ _ (F0 m 47 ls [.int 0])
      have hK1 : k2 (inR v 0 7) (inR u 0 60 ∧ inR z 3 30) = 2 := k2_n2 hp1 (fun q => hn q.1)
      have hKn : ¬ k2 (inR v 0 7) (inR u 0 60 ∧ inR z 3 30) = 0 := by rw [hK1]; decide
      exact W.zret (v := 0) hx hb hRt (rfl) (fun t ht hW => ⟨⟨by simp only [if_neg hKn], by rw [ht]; exact (by rw [hK1]; exact hP)⟩, hS.F ht⟩) hS.2.2 dX3_isSafeWith_47
    · have hp2 : inR u 0 60 := by cases b_76 with | true => simpa using hbv_77.symm | false => exact absurd rfl c_78
      refine lv_iload_n hx hb dX3_isSafeWith_25 rfl (lv_at hl 3 rfl) ?_
      have hPc := hP.sub (ws' := []) [] rfl
      have hDc : va_D (fun q : Nat => L0 ≤ q) [] := (hD.sub (ws' := []) [] (by decide) rfl).weaken (fun _ z9 _ h9 => hAL _ h9)
      have hKc := hK.sub (tys' := []) [] rfl
      refine c_callR (va_runS (As := [.int z]) (rest := []) ⟨hx, hb, hml, hown, hts⟩ (q_isReach l D L0 z) (va_cwS 1 hts gX3_isSafeWith_X3_isReach rfl rfl rfl (by decide +kernel) ⟨Nat.le_of_ble_eq_true rfl, Nat.le_of_ble_eq_true rfl⟩) ⟨cP_blind, cP_of hPc hKc hDc (kE_at hE0 hAL hS)⟩ rfl rfl hl.1 rfl (lv_room (Nat.le_of_ble_eq_true rfl)) dX3_isSafeWith_26 ⟨Nat.le_of_ble_eq_true rfl, Nat.le_of_ble_eq_true rfl⟩) ?_
      show W _ _ _ _ _ _ _ _ _ _ _ _ _ _ _ (F0 m 29 ls [.int (bI (decide (3 ≤ z) && decide (z ≤ 30)))])
      obtain ⟨b_79, hbv_80⟩ : ∃ z9 : Bool, z9 = (decide (3 ≤ z) && decide (z ≤ 30)) := ⟨_, rfl⟩
      refine c_top (show (bI (decide (3 ≤ z) && decide (z ≤ 30))) = bI b_79 from by rw [hbv_80]) ?_
      refine lv_if_eq (tgt := 42) hx hb dX3_isSafeWith_29 (by decide) (fun c_81 => ?_) (fun c_81 => ?_)
      · have hn : ¬ (inR z 3 30) := fun hp => absurd c_81 (by rw [hbv_80]; simp [hp.1, hp.2, bI])
        refine lv_aload_n hx hb dX3_isSafeWith_42 rfl (lv_at hl 0 rfl) ?_
        refine lv_iconst (v := 2) hx hb dX3_isSafeWith_43 (by decide) ?_
        have hPc := hP.sub (ws' := [(mm, .inr (3, [.int 0, .int (nI d), .int (nI r), .int ld, .int pl, .ref ao, .ref al, .int li, .int tl, .int mo, .ref aw, .ref aq, .int mn]))]) [0] rfl
        have hDc : va_D (fun q : Nat => L0 ≤ q) [(mm, .inr (3, [.int 0, .int (nI d), .int (nI r), .int ld, .int pl, .ref ao, .ref al, .int li, .int tl, .int mo, .ref aw, .ref aq, .int mn]))] := (hD.sub (ws' := [(mm, .inr (3, [.int 0, .int (nI d), .int (nI r), .int ld, .int pl, .ref ao, .ref al, .int li, .int tl, .int mo, .ref aw, .ref aq, .int mn]))]) [0] (by decide) rfl).weaken (fun _ z9 _ h9 => hAL _ h9)
        have hKc := hK.sub (tys' := []) [] rfl
        refine c_callB (va_runV (As := [.int 2]) (rest := []) ⟨hx, hb, hml, hown, hts⟩ (q_isNot l D L0 mm ao al aw aq d r 0 ld pl li tl mo mn 2) (cwV 1 hts gX3_isSafeWith_X3_isNot rfl rfl rfl (by decide +kernel) ⟨Nat.le_of_ble_eq_true rfl, Nat.le_of_ble_eq_true rfl⟩) ⟨cP_blind, va_recv hKc hPc (ci := 3) (q0 := 0) rfl rfl, cP_of hPc hKc hDc (kE_at hE0 hAL hS)⟩ rfl rfl hl.1 rfl (lv_room (Nat.le_of_ble_eq_true rfl)) dX3_isSafeWith_44 ⟨Nat.le_of_ble_eq_true rfl, Nat.le_of_ble_eq_true rfl⟩) hS (fun z9 _ ⟨k9, e9, h9⟩ => (hD.sub (ws' := [(mm, .inr (3, [.int 0, .int (nI d), .int (nI r), .int ld, .int pl, .ref ao, .ref al, .int li, .int tl, .int mo, .ref aw, .ref aq, .int mn]))]) [0] (by decide) rfl).2 k9 (z9, e9) h9) (fun z9 ⟨k9, e9, h9⟩ => (hD.sub (ws' := [(mm, .inr (3, [.int 0, .int (nI d), .int (nI r), .int ld, .int pl, .ref ao, .ref al, .int li, .int tl, .int mo, .ref aw, .ref aq, .int mn]))]) [0] (by decide) rfl).2 k9 (z9, e9) h9) (fun H1 locs hB hz1 hk1 hS => ?_)
        obtain ⟨hP, hD⟩ := c_join (ws' := [(mm, .inr (3, [.int 2, .int (nI d), .int (nI r), .int ld, .int pl, .ref ao, .ref al, .int li, .int tl, .int mo, .ref aw, .ref aq, .int mn])), (ao, .inl (cI, 4, .inl fo)), (al, .inl (cI, 31, .inl fl))]) (wr := [(ao, .inl (cI, 4, .inl fo)), (al, .inl (cI, 31, .inl fl))]) (w1 := [(mm, .inr (3, [.int 2, .int (nI d), .int (nI r), .int ld, .int pl, .ref ao, .ref al, .int li, .int tl, .int mo, .ref aw, .ref aq, .int mn]))]) hP hD [0] [1, 2] [2, 0, 1] rfl rfl (by decide) (by decide) hk1 hB rfl rfl rfl (by decide)
        generalize H1 = H at hP hS ⊢
        show W _ _ _ _ _ _ _ _ _ _ _ _ _ _ _ (F0 m 47 ls [.int 0])
        have hK1 : k2 (inR v 0 7) (inR u 0 60 ∧ inR z 3 30) = 2 := k2_n2 hp1 (fun q => hn q.2)
        have hKn : ¬ k2 (inR v 0 7) (inR u 0 60 ∧ inR z 3 30) = 0 := by rw [hK1]; decide
        exact W.zret (v := 0) hx hb hRt (rfl) (fun t ht hW => ⟨⟨by simp only [if_neg hKn], by rw [ht]; exact (by rw [hK1]; exact hP)⟩, hS.F ht⟩) hS.2.2 dX3_isSafeWith_47
      · have hp3 : inR z 3 30 := by cases b_79 with | true => simpa using hbv_80.symm | false => exact absurd rfl c_81
        obtain ⟨kv, hkv, hv⟩ := inR_nI (n := 7) (by decide) hp1
        have hl : lv_has ls 4 [(0, .ref mm), (1, .int u), (2, .int (nI kv)), (3, .int z)] := (show v = nI kv from hv) ▸ hl
        obtain ⟨kz, hkz, hz⟩ := inR_n3 (n := 30) (by decide) hp3
        have hl : lv_has ls 4 [(0, .ref mm), (1, .int u), (2, .int (nI kv)), (3, .int (nI kz))] := (show z = nI kz from hz) ▸ hl
        have hvn : v.toNatClampNeg = kv := by rw [hv, nI_clamp (by omega)]
        have hzn : z.toNatClampNeg = kz := by rw [hz, nI_clamp (by omega)]
        refine lv_aload_n hx hb dX3_isSafeWith_32 rfl (lv_at hl 0 rfl) ?_
        refine lv_iload_n hx hb dX3_isSafeWith_33 rfl (lv_at hl 1 rfl) ?_
        refine lv_iload_n hx hb dX3_isSafeWith_34 rfl (lv_at hl 2 rfl) ?_
        refine lv_iload_n hx hb dX3_isSafeWith_35 rfl (lv_at hl 3 rfl) ?_
        have hPc := hP.sub (ws' := [(mm, .inr (3, [.int 0, .int (nI d), .int (nI r), .int ld, .int pl, .ref ao, .ref al, .int li, .int tl, .int mo, .ref aw, .ref aq, .int mn])), (ao, .inl (cI, 4, .inl fo)), (al, .inl (cI, 31, .inl fl))]) [0, 1, 2] rfl
        have hDc : va_D (fun q : Nat => L0 ≤ q) [(mm, .inr (3, [.int 0, .int (nI d), .int (nI r), .int ld, .int pl, .ref ao, .ref al, .int li, .int tl, .int mo, .ref aw, .ref aq, .int mn])), (ao, .inl (cI, 4, .inl fo)), (al, .inl (cI, 31, .inl fl))] := (hD.sub (ws' := [(mm, .inr (3, [.int 0, .int (nI d), .int (nI r), .int ld, .int pl, .ref ao, .ref al, .int li, .int tl, .int mo, .ref aw, .ref aq, .int mn])), (ao, .inl (cI, 4, .inl fo)), (al, .inl (cI, 31, .inl fl))]) [0, 1, 2] (by decide) rfl).weaken (fun _ z9 _ h9 => hAL _ h9)
        have hKc := hK.sub (tys' := [(cI, .int)]) [0] rfl
        refine c_callR (va_runV (As := [.int u, .int (nI kv), .int (nI kz)]) (rest := []) ⟨hx, hb, hml, hown, hts⟩ (q_isSafe l D L0 cI mm ao al aw aq d r 0 ld pl li tl mo mn fo fl kv kz u (by omega) hkz) (cwV 3 hts gX3_isSafeWith_X3_isSafe rfl rfl rfl (by decide +kernel) ⟨Nat.le_of_ble_eq_true rfl, Nat.le_of_ble_eq_true rfl⟩) ⟨cP_blind, va_recv hKc hPc (ci := 3) (q0 := 0) rfl rfl, cP_of hPc hKc hDc (kE_at hE0 hAL hS)⟩ rfl rfl hl.1 rfl (lv_room (Nat.le_of_ble_eq_true rfl)) dX3_isSafeWith_36 ⟨Nat.le_of_ble_eq_true rfl, Nat.le_of_ble_eq_true rfl⟩) ?_
        show W _ _ _ _ _ _ _ _ _ _ _ _ _ _ _ (F0 m 39 ls [.int (bI (safS fo fl pl u kv kz))])
        refine lv_goto (tgt := 47) hx hb dX3_isSafeWith_39 (by decide) ?_
        have hK1 : k2 (inR v 0 7) (inR u 0 60 ∧ inR z 3 30) = 0 := k2_yes hp1 ⟨hp2, hp3⟩
        exact W.zret (v := (bI (safS fo fl pl u kv kz))) hx hb hRt (bI_nar _) (fun t ht hW => ⟨⟨by simp only [if_pos hK1]; rw [hvn, hzn], by rw [ht]; exact (by rw [hK1]; exact hP)⟩, hS.F ht⟩) hS.2.2 dX3_isSafeWith_47
  · have hn : ¬ (inR v 0 7) := fun hp => absurd c_75 (by rw [hbv_74]; simp [hp.1, hp.2, bI])
    refine lv_aload_n hx hb dX3_isSafeWith_12 rfl (lv_at hl 0 rfl) ?_
    refine lv_iconst (v := 1) hx hb dX3_isSafeWith_13 (by decide) ?_
    have hPc := hP.sub (ws' := [(mm, .inr (3, [.int 0, .int (nI d), .int (nI r), .int ld, .int pl, .ref ao, .ref al, .int li, .int tl, .int mo, .ref aw, .ref aq, .int mn]))]) [0] rfl
    have hDc : va_D (fun q : Nat => L0 ≤ q) [(mm, .inr (3, [.int 0, .int (nI d), .int (nI r), .int ld, .int pl, .ref ao, .ref al, .int li, .int tl, .int mo, .ref aw, .ref aq, .int mn]))] := (hD.sub (ws' := [(mm, .inr (3, [.int 0, .int (nI d), .int (nI r), .int ld, .int pl, .ref ao, .ref al, .int li, .int tl, .int mo, .ref aw, .ref aq, .int mn]))]) [0] (by decide) rfl).weaken (fun _ z9 _ h9 => hAL _ h9)
    have hKc := hK.sub (tys' := []) [] rfl
    refine c_callB (va_runV (As := [.int 1]) (rest := []) ⟨hx, hb, hml, hown, hts⟩ (q_isNot l D L0 mm ao al aw aq d r 0 ld pl li tl mo mn 1) (cwV 1 hts gX3_isSafeWith_X3_isNot rfl rfl rfl (by decide +kernel) ⟨Nat.le_of_ble_eq_true rfl, Nat.le_of_ble_eq_true rfl⟩) ⟨cP_blind, va_recv hKc hPc (ci := 3) (q0 := 0) rfl rfl, cP_of hPc hKc hDc (kE_at hE0 hAL hS)⟩ rfl rfl hl.1 rfl (lv_room (Nat.le_of_ble_eq_true rfl)) dX3_isSafeWith_14 ⟨Nat.le_of_ble_eq_true rfl, Nat.le_of_ble_eq_true rfl⟩) hS (fun z9 _ ⟨k9, e9, h9⟩ => (hD.sub (ws' := [(mm, .inr (3, [.int 0, .int (nI d), .int (nI r), .int ld, .int pl, .ref ao, .ref al, .int li, .int tl, .int mo, .ref aw, .ref aq, .int mn]))]) [0] (by decide) rfl).2 k9 (z9, e9) h9) (fun z9 ⟨k9, e9, h9⟩ => (hD.sub (ws' := [(mm, .inr (3, [.int 0, .int (nI d), .int (nI r), .int ld, .int pl, .ref ao, .ref al, .int li, .int tl, .int mo, .ref aw, .ref aq, .int mn]))]) [0] (by decide) rfl).2 k9 (z9, e9) h9) (fun H1 locs hB hz1 hk1 hS => ?_)
    obtain ⟨hP, hD⟩ := c_join (ws' := [(mm, .inr (3, [.int 1, .int (nI d), .int (nI r), .int ld, .int pl, .ref ao, .ref al, .int li, .int tl, .int mo, .ref aw, .ref aq, .int mn])), (ao, .inl (cI, 4, .inl fo)), (al, .inl (cI, 31, .inl fl))]) (wr := [(ao, .inl (cI, 4, .inl fo)), (al, .inl (cI, 31, .inl fl))]) (w1 := [(mm, .inr (3, [.int 1, .int (nI d), .int (nI r), .int ld, .int pl, .ref ao, .ref al, .int li, .int tl, .int mo, .ref aw, .ref aq, .int mn]))]) hP hD [0] [1, 2] [2, 0, 1] rfl rfl (by decide) (by decide) hk1 hB rfl rfl rfl (by decide)
    generalize H1 = H at hP hS ⊢
    show W _ _ _ _ _ _ _ _ _ _ _ _ _ _ _ (F0 m 17 ls [.int 0])
    have hK1 : k2 (inR v 0 7) (inR u 0 60 ∧ inR z 3 30) = 1 := k2_n1 hn
    have hKn : ¬ k2 (inR v 0 7) (inR u 0 60 ∧ inR z 3 30) = 0 := by rw [hK1]; decide
    exact W.zret (v := 0) hx hb hRt (rfl) (fun t ht hW => ⟨⟨by simp only [if_neg hKn], by rw [ht]; exact (by rw [hK1]; exact hP)⟩, hS.F ht⟩) hS.2.2 dX3_isSafeWith_17
set_option maxHeartbeats 4000000 in
set_option maxRecDepth 100000 in
/-- farthestReach -/
theorem q_farthestReach (l : Launch) (D : va_G) (L0 : Nat) (cI : ClassId) (mm ao al aw aq d r : Nat) (th ld pl li tl mo mn : Int32) (fo fl : Nat → Int32) (u v : Int32) : Met l yX3_farthestReach wsX3_farthestReach ({ frames := 3, cells := 0, slots := 0, locals := 81 }) (cP L0 D [(cI, .int)] [(mm, .inr (3, [.int th, .int (nI d), .int (nI r), .int ld, .int pl, .ref ao, .ref al, .int li, .int tl, .int mo, .ref aw, .ref aq, .int mn])), (ao, .inl (cI, 4, .inl fo)), (al, .inl (cI, 31, .inl fl))] [.ref mm, .int u, .int v]) (cB (some (.int (if k2 (inR v 0 7) (inR u 0 60) = 0 then faI (faN (fun k => safS fo fl pl u v.toNatClampNeg k) 28 3) else 0))) (fun H => va_P D vwCl [(mm, .inr (3, [.int (k2 (inR v 0 7) (inR u 0 60)), .int (nI d), .int (nI r), .int ld, .int pl, .ref ao, .ref al, .int li, .int tl, .int mo, .ref aw, .ref aq, .int mn])), (ao, .inl (cI, 4, .inl fo)), (al, .inl (cI, 31, .inl fl))] H) (cA [(mm, .inr (3, [.int th, .int (nI d), .int (nI r), .int ld, .int pl, .ref ao, .ref al, .int li, .int tl, .int mo, .ref aw, .ref aq, .int mn])), (ao, .inl (cI, 4, .inl fo)), (al, .inl (cI, 31, .inl fl))])) 0 0 (cA [(mm, .inr (3, [.int th, .int (nI d), .int (nI r), .int ld, .int pl, .ref ao, .ref al, .int li, .int tl, .int mo, .ref aw, .ref aq, .int mn])), (ao, .inl (cI, 4, .inl fo)), (al, .inl (cI, 31, .inl fl))]) := by
  refine Met.ofW (cc := cX3_farthestReach) (maxL := 4) (ret := (some .int)) (by decide) rfl ?_
  intro p e s m args below meth c s₁ B hml hv
  obtain ⟨rfl, hP, hK, hD0, hE0⟩ := hv
  have hx := B.exec
  have hb := B.bytes
  have hRt := B.returns
  have hts := atoms_spec (ws := wsX3_farthestReach) B.pre
  have hown : s.vm.findClass RX3 = some m.cls := findClass_of_methodNamed B.named
  have hlocks := B.notSynchronized
  have hAL : ∀ z9 : Nat, cA [(mm, .inr (3, [.int th, .int (nI d), .int (nI r), .int ld, .int pl, .ref ao, .ref al, .int li, .int tl, .int mo, .ref aw, .ref aq, .int mn])), (ao, .inl (cI, 4, .inl fo)), (al, .inl (cI, 31, .inl fl))] z9 → L0 ≤ z9 := fun z9 ⟨k9, e9, h9⟩ => hD0.2 k9 (z9, e9) h9
  have hD : va_D (cA [(mm, .inr (3, [.int th, .int (nI d), .int (nI r), .int ld, .int pl, .ref ao, .ref al, .int li, .int tl, .int mo, .ref aw, .ref aq, .int mn])), (ao, .inl (cI, 4, .inl fo)), (al, .inl (cI, 31, .inl fl))]) [(mm, .inr (3, [.int th, .int (nI d), .int (nI r), .int ld, .int pl, .ref ao, .ref al, .int li, .int tl, .int mo, .ref aw, .ref aq, .int mn])), (ao, .inl (cI, 4, .inl fo)), (al, .inl (cI, 31, .inl fl))] := ⟨hD0.1, fun k9 z9 h9 => cA_of h9⟩
  generalize hAe : cA [(mm, .inr (3, [.int th, .int (nI d), .int (nI r), .int ld, .int pl, .ref ao, .ref al, .int li, .int tl, .int mo, .ref aw, .ref aq, .int mn])), (ao, .inl (cI, 4, .inl fo)), (al, .inl (cI, 31, .inl fl))] = A at hD hAL ⊢
  have hS : va_S A s.heap s.heap [] := va_S.rf
  have hiX3 : ∀ w ∈ u_ws RX3 TX3 13, w ∈ wsX3_farthestReach := by decide +kernel
  have hl := lv_entry ([.ref mm, .int u, .int v]) (n := 4) (Nat.le_of_ble_eq_true rfl)
  rw [lg_entry_eq]
  generalize (lg_sl ([.ref mm, .int u, .int v]) ++ List.replicate (4 - (lg_sl ([.ref mm, .int u, .int v])).length) Slot.unset).toArray = ls at hl ⊢
  have hl : lv_has ls 4 [(0, .ref mm), (1, .int u), (2, .int v)] := hl
  refine lv_aload_n hx hb dX3_farthestReach_0 rfl (lv_at hl 0 rfl) ?_
  refine lv_iconst (v := 0) hx hb dX3_farthestReach_1 (by decide) ?_
  refine va_put (D := D) (ci := 3) (v := .int 0) (ty := .int) (C := RX3) (T := TX3) (N := 13) hx hb hts hiX3 tyX3 tyX3_ok nmX3 hown hK hP hD hS 0 rfl rfl 0 (by decide) (hts (.fieldLink RX3 26 "CraneReachModel" "thrown" "I") (by decide +kernel)) (fun _ h9 => h9) rfl (by decide +kernel) rfl rfl (Nat.le_of_ble_eq_true rfl) dX3_farthestReach_2 (fun H locs hP hD hS => ?_)
  have hP : va_P D vwCl [(mm, .inr (3, [.int 0, .int (nI d), .int (nI r), .int ld, .int pl, .ref ao, .ref al, .int li, .int tl, .int mo, .ref aw, .ref aq, .int mn])), (ao, .inl (cI, 4, .inl fo)), (al, .inl (cI, 31, .inl fl))] H := hP
  have hD : va_D A [(mm, .inr (3, [.int 0, .int (nI d), .int (nI r), .int ld, .int pl, .ref ao, .ref al, .int li, .int tl, .int mo, .ref aw, .ref aq, .int mn])), (ao, .inl (cI, 4, .inl fo)), (al, .inl (cI, 31, .inl fl))] := hD
  refine lv_iload_n hx hb dX3_farthestReach_5 rfl (lv_at hl 2 rfl) ?_
  have hPc := hP.sub (ws' := []) [] rfl
  have hDc : va_D (fun q : Nat => L0 ≤ q) [] := (hD.sub (ws' := []) [] (by decide) rfl).weaken (fun _ z9 _ h9 => hAL _ h9)
  have hKc := hK.sub (tys' := []) [] rfl
  refine c_callR (va_runS (As := [.int v]) (rest := []) ⟨hx, hb, hml, hown, hts⟩ (q_isDirection l D L0 v) (va_cwS 1 hts gX3_farthestReach_X3_isDirection rfl rfl rfl (by decide +kernel) ⟨Nat.le_of_ble_eq_true rfl, Nat.le_of_ble_eq_true rfl⟩) ⟨cP_blind, cP_of hPc hKc hDc (kE_at hE0 hAL hS)⟩ rfl rfl hl.1 rfl (lv_room (Nat.le_of_ble_eq_true rfl)) dX3_farthestReach_6 ⟨Nat.le_of_ble_eq_true rfl, Nat.le_of_ble_eq_true rfl⟩) ?_
  show W _ _ _ _ _ _ _ _ _ _ _ _ _ _ _ (F0 m 9 ls [.int (bI (decide (0 ≤ v) && decide (v ≤ 7)))])
  obtain ⟨b_82, hbv_83⟩ : ∃ z9 : Bool, z9 = (decide (0 ≤ v) && decide (v ≤ 7)) := ⟨_, rfl⟩
  refine c_top (show (bI (decide (0 ≤ v) && decide (v ≤ 7))) = bI b_82 from by rw [hbv_83]) ?_
  refine lv_if_ne (tgt := 18) hx hb dX3_farthestReach_9 (by decide) (fun c_84 => ?_) (fun c_84 => ?_)
  · have hp1 : inR v 0 7 := by cases b_82 with | true => simpa using hbv_83.symm | false => exact absurd rfl c_84
    refine lv_iload_n hx hb dX3_farthestReach_18 rfl (lv_at hl 1 rfl) ?_
    have hPc := hP.sub (ws' := []) [] rfl
    have hDc : va_D (fun q : Nat => L0 ≤ q) [] := (hD.sub (ws' := []) [] (by decide) rfl).weaken (fun _ z9 _ h9 => hAL _ h9)
    have hKc := hK.sub (tys' := []) [] rfl
    refine c_callR (va_runS (As := [.int u]) (rest := []) ⟨hx, hb, hml, hown, hts⟩ (q_isLoad l D L0 u) (va_cwS 1 hts gX3_farthestReach_X3_isLoad rfl rfl rfl (by decide +kernel) ⟨Nat.le_of_ble_eq_true rfl, Nat.le_of_ble_eq_true rfl⟩) ⟨cP_blind, cP_of hPc hKc hDc (kE_at hE0 hAL hS)⟩ rfl rfl hl.1 rfl (lv_room (Nat.le_of_ble_eq_true rfl)) dX3_farthestReach_19 ⟨Nat.le_of_ble_eq_true rfl, Nat.le_of_ble_eq_true rfl⟩) ?_
    show W _ _ _ _ _ _ _ _ _ _ _ _ _ _ _ (F0 m 22 ls [.int (bI (decide (0 ≤ u) && decide (u ≤ 60)))])
    obtain ⟨b_85, hbv_86⟩ : ∃ z9 : Bool, z9 = (decide (0 ≤ u) && decide (u ≤ 60)) := ⟨_, rfl⟩
    refine c_top (show (bI (decide (0 ≤ u) && decide (u ≤ 60))) = bI b_85 from by rw [hbv_86]) ?_
    refine lv_if_ne (tgt := 31) hx hb dX3_farthestReach_22 (by decide) (fun c_87 => ?_) (fun c_87 => ?_)
    · have hp2 : inR u 0 60 := by cases b_85 with | true => simpa using hbv_86.symm | false => exact absurd rfl c_87
      obtain ⟨kv, hkv, hv⟩ := inR_nI (n := 7) (by decide) hp1
      have hl : lv_has ls 4 [(0, .ref mm), (1, .int u), (2, .int (nI kv))] := (show v = nI kv from hv) ▸ hl
      have hvn : v.toNatClampNeg = kv := by rw [hv, nI_clamp (by omega)]
      have loop : ∀ (n : Nat) (i : Nat) (H : Heap) (locs : List Loc) (ls : Array Slot), i + n = 31 → 3 ≤ i → faN (fun k => safS fo fl pl u kv k) n i = faN (fun k => safS fo fl pl u v.toNatClampNeg k) 28 3 → lv_has ls 4 [(3, .int (nI i)), (0, .ref mm), (1, .int u), (2, .int (nI kv))] → va_P D vwCl [(mm, .inr (3, [.int 0, .int (nI d), .int (nI r), .int ld, .int pl, .ref ao, .ref al, .int li, .int tl, .int mo, .ref aw, .ref aq, .int mn])), (ao, .inl (cI, 4, .inl fo)), (al, .inl (cI, 31, .inl fl))] H → va_D A [(mm, .inr (3, [.int 0, .int (nI d), .int (nI r), .int ld, .int pl, .ref ao, .ref al, .int li, .int tl, .int mo, .ref aw, .ref aq, .int mn])), (ao, .inl (cI, 4, .inl fo)), (al, .inl (cI, 31, .inl fl))] → va_S A s.heap H locs → W p l e (headSpec wsX3_farthestReach ({ frames := 3, cells := 0, slots := 0, locals := 81 })).room s m ([.ref mm, .int u, .int v]).toArray below meth c H locs 0 0 (MQ below (cB (some (.int (if k2 (inR v 0 7) (inR u 0 60) = 0 then faI (faN (fun k => safS fo fl pl u v.toNatClampNeg k) 28 3) else 0))) (fun H => va_P D vwCl [(mm, .inr (3, [.int (k2 (inR v 0 7) (inR u 0 60)), .int (nI d), .int (nI r), .int ld, .int pl, .ref ao, .ref al, .int li, .int tl, .int mo, .ref aw, .ref aq, .int mn])), (ao, .inl (cI, 4, .inl fo)), (al, .inl (cI, 31, .inl fl))] H) A) ([.ref mm, .int u, .int v]).toArray s 0 0 A) (F0 m 33 ls []) := by
        intro n
        induction n with
        | zero =>
          intro i H locs ls hn h3 hG hl hP hD hS
          have hi : i = 31 := by omega
          have hG2 : i = faN (fun k => safS fo fl pl u v.toNatClampNeg k) 28 3 := by rw [← hG]; rfl
          refine lv_iload_n hx hb dX3_farthestReach_33 rfl (lv_at hl 0 rfl) ?_
          refine lv_bipush (v := 30) hx hb dX3_farthestReach_34 (by decide) ?_
          refine lv_icmp_gt (tgt := 55) hx hb dX3_farthestReach_36 (by decide) (fun _ => ?_) (fun c_88 => absurd (by rw [hi]; decide) c_88)
          refine lv_iload_n hx hb dX3_farthestReach_55 rfl (lv_at hl 0 rfl) ?_
          refine lv_iconst (v := 3) hx hb dX3_farthestReach_56 (by decide) ?_
          refine lv_icmp_ne (tgt := 64) hx hb dX3_farthestReach_57 (by decide) (fun c_89 => ?_) (fun c_89 => ?_)
          · have hi3 : ¬ i = 3 := fun e => c_89 (by rw [e]; rfl)
            refine lv_iload_n hx hb dX3_farthestReach_64 rfl (lv_at hl 0 rfl) ?_
            refine lv_iconst (v := 1) hx hb dX3_farthestReach_65 (by decide) ?_
            refine lv_isub hx hb dX3_farthestReach_66 ?_
            refine c_top (show ((nI i) - 1) = faI i from by rw [faI, if_neg hi3]; exact pk_sub (b := 1) (by omega)) ?_
            have hK1 : k2 (inR v 0 7) (inR u 0 60) = 0 := k2_yes hp1 hp2
            exact W.iret (v := (faI i)) hx hb hRt (fun t ht hW => ⟨⟨by simp only [if_pos hK1]; rw [← hG2], by rw [ht]; exact (by rw [hK1]; exact hP)⟩, hS.F ht⟩) hS.2.2 dX3_farthestReach_67
          · have hi3 : i = 3 := (nI_eq (b := 3) (by omega) (by decide)).mp c_89
            refine lv_iconst (v := -1) hx hb dX3_farthestReach_60 (by decide) ?_
            refine lv_goto (tgt := 67) hx hb dX3_farthestReach_61 (by decide) ?_
            refine c_top (show ((-1)) = faI i from by rw [faI, if_pos hi3]) ?_
            have hK1 : k2 (inR v 0 7) (inR u 0 60) = 0 := k2_yes hp1 hp2
            exact W.iret (v := (faI i)) hx hb hRt (fun t ht hW => ⟨⟨by simp only [if_pos hK1]; rw [← hG2], by rw [ht]; exact (by rw [hK1]; exact hP)⟩, hS.F ht⟩) hS.2.2 dX3_farthestReach_67
        | succ n ih =>
          intro i H locs ls hn h3 hG hl hP hD hS
          refine lv_iload_n hx hb dX3_farthestReach_33 rfl (lv_at hl 0 rfl) ?_
          refine lv_bipush (v := 30) hx hb dX3_farthestReach_34 (by decide) ?_
          refine lv_icmp_gt (tgt := 55) hx hb dX3_farthestReach_36 (by decide) (fun c_90 => absurd c_90 (Int32.not_lt.mpr (nI_le (b := 30) (by omega) (by decide)))) (fun _ => ?_)
          refine lv_aload_n hx hb dX3_farthestReach_39 rfl (lv_at hl 1 rfl) ?_
          refine lv_iload_n hx hb dX3_farthestReach_40 rfl (lv_at hl 2 rfl) ?_
          refine lv_iload_n hx hb dX3_farthestReach_41 rfl (lv_at hl 3 rfl) ?_
          refine lv_iload_n hx hb dX3_farthestReach_42 rfl (lv_at hl 0 rfl) ?_
          have hPc := hP.sub (ws' := [(mm, .inr (3, [.int 0, .int (nI d), .int (nI r), .int ld, .int pl, .ref ao, .ref al, .int li, .int tl, .int mo, .ref aw, .ref aq, .int mn])), (ao, .inl (cI, 4, .inl fo)), (al, .inl (cI, 31, .inl fl))]) [0, 1, 2] rfl
          have hDc : va_D (fun q : Nat => L0 ≤ q) [(mm, .inr (3, [.int 0, .int (nI d), .int (nI r), .int ld, .int pl, .ref ao, .ref al, .int li, .int tl, .int mo, .ref aw, .ref aq, .int mn])), (ao, .inl (cI, 4, .inl fo)), (al, .inl (cI, 31, .inl fl))] := (hD.sub (ws' := [(mm, .inr (3, [.int 0, .int (nI d), .int (nI r), .int ld, .int pl, .ref ao, .ref al, .int li, .int tl, .int mo, .ref aw, .ref aq, .int mn])), (ao, .inl (cI, 4, .inl fo)), (al, .inl (cI, 31, .inl fl))]) [0, 1, 2] (by decide) rfl).weaken (fun _ z9 _ h9 => hAL _ h9)
          have hKc := hK.sub (tys' := [(cI, .int)]) [0] rfl
          refine c_callR (va_runV (As := [.int u, .int (nI kv), .int (nI i)]) (rest := []) ⟨hx, hb, hml, hown, hts⟩ (q_isSafe l D L0 cI mm ao al aw aq d r 0 ld pl li tl mo mn fo fl kv i u (by omega) ⟨h3, by omega⟩) (cwV 3 hts gX3_farthestReach_X3_isSafe rfl rfl rfl (by decide +kernel) ⟨Nat.le_of_ble_eq_true rfl, Nat.le_of_ble_eq_true rfl⟩) ⟨cP_blind, va_recv hKc hPc (ci := 3) (q0 := 0) rfl rfl, cP_of hPc hKc hDc (kE_at hE0 hAL hS)⟩ rfl rfl hl.1 rfl (lv_room (Nat.le_of_ble_eq_true rfl)) dX3_farthestReach_43 ⟨Nat.le_of_ble_eq_true rfl, Nat.le_of_ble_eq_true rfl⟩) ?_
          show W _ _ _ _ _ _ _ _ _ _ _ _ _ _ _ (F0 m 46 ls [.int (bI (safS fo fl pl u kv i))])
          obtain ⟨b_91, hbv_92⟩ : ∃ z9 : Bool, z9 = safS fo fl pl u kv i := ⟨_, rfl⟩
          refine c_top (show (bI (safS fo fl pl u kv i)) = bI b_91 from by rw [hbv_92]) ?_
          refine lv_if_eq (tgt := 55) hx hb dX3_farthestReach_46 (by decide) (fun c_93 => ?_) (fun c_93 => ?_)
          · have hs : safS fo fl pl u kv i = false := by rw [← hbv_92]; cases b_91 with | false => rfl | true => exact absurd c_93 (by decide)
            have hG2 : i = faN (fun k => safS fo fl pl u v.toNatClampNeg k) 28 3 := by rw [← hG, faN, if_neg (by rw [hs]; decide)]
            refine lv_iload_n hx hb dX3_farthestReach_55 rfl (lv_at hl 0 rfl) ?_
            refine lv_iconst (v := 3) hx hb dX3_farthestReach_56 (by decide) ?_
            refine lv_icmp_ne (tgt := 64) hx hb dX3_farthestReach_57 (by decide) (fun c_94 => ?_) (fun c_94 => ?_)
            · have hi3 : ¬ i = 3 := fun e => c_94 (by rw [e]; rfl)
              refine lv_iload_n hx hb dX3_farthestReach_64 rfl (lv_at hl 0 rfl) ?_
              refine lv_iconst (v := 1) hx hb dX3_farthestReach_65 (by decide) ?_
              refine lv_isub hx hb dX3_farthestReach_66 ?_
              refine c_top (show ((nI i) - 1) = faI i from by rw [faI, if_neg hi3]; exact pk_sub (b := 1) (by omega)) ?_
              have hK1 : k2 (inR v 0 7) (inR u 0 60) = 0 := k2_yes hp1 hp2
              exact W.iret (v := (faI i)) hx hb hRt (fun t ht hW => ⟨⟨by simp only [if_pos hK1]; rw [← hG2], by rw [ht]; exact (by rw [hK1]; exact hP)⟩, hS.F ht⟩) hS.2.2 dX3_farthestReach_67
            · have hi3 : i = 3 := (nI_eq (b := 3) (by omega) (by decide)).mp c_94
              refine lv_iconst (v := -1) hx hb dX3_farthestReach_60 (by decide) ?_
              refine lv_goto (tgt := 67) hx hb dX3_farthestReach_61 (by decide) ?_
              refine c_top (show ((-1)) = faI i from by rw [faI, if_pos hi3]) ?_
              have hK1 : k2 (inR v 0 7) (inR u 0 60) = 0 := k2_yes hp1 hp2
              exact W.iret (v := (faI i)) hx hb hRt (fun t ht hW => ⟨⟨by simp only [if_pos hK1]; rw [← hG2], by rw [ht]; exact (by rw [hK1]; exact hP)⟩, hS.F ht⟩) hS.2.2 dX3_farthestReach_67
          · have hs : safS fo fl pl u kv i = true := by rw [← hbv_92]; cases b_91 with | true => rfl | false => exact absurd rfl c_93
            refine lv_iinc (v := (nI i) + 1) (lv' := [(3, .int ((nI i) + 1)), (0, .ref mm), (1, .int u), (2, .int (nI kv))]) hx hb dX3_farthestReach_49 hl (k := 0) rfl rfl (by decide) rfl (fun ls hl => ?_)
            refine lv_goto (tgt := 33) hx hb dX3_farthestReach_52 (by decide) ?_
            have hl : lv_has ls 4 [(3, .int (nI (i + 1))), (0, .ref mm), (1, .int u), (2, .int (nI kv))] := (show (nI i) + 1 = nI (i + 1) from nI_1 i) ▸ hl
            exact ih (i + 1) _ _ _ (by omega) (by omega) (by rw [← hG, faN, if_pos hs]) (lv_sub hl [0, 1, 2, 3] rfl) hP hD hS
      refine lv_iconst (v := 3) hx hb dX3_farthestReach_31 (by decide) ?_
      refine lv_istore_n (lv' := [(3, .int 3), (0, .ref mm), (1, .int u), (2, .int (nI kv))]) hx hb dX3_farthestReach_32 rfl hl (by decide) rfl (fun ls hl => ?_)
      have hl : lv_has ls 4 [(3, .int (nI 3)), (0, .ref mm), (1, .int u), (2, .int (nI kv))] := (show 3 = nI 3 from rfl) ▸ hl
      exact loop 28 3 _ _ _ (by omega) (by omega) (by rw [hvn]) (lv_sub hl [0, 1, 2, 3] rfl) hP hD hS
    · have hn : ¬ (inR u 0 60) := fun hp => absurd c_87 (by rw [hbv_86]; simp [hp.1, hp.2, bI])
      refine lv_aload_n hx hb dX3_farthestReach_25 rfl (lv_at hl 0 rfl) ?_
      refine lv_iconst (v := 2) hx hb dX3_farthestReach_26 (by decide) ?_
      have hPc := hP.sub (ws' := [(mm, .inr (3, [.int 0, .int (nI d), .int (nI r), .int ld, .int pl, .ref ao, .ref al, .int li, .int tl, .int mo, .ref aw, .ref aq, .int mn]))]) [0] rfl
      have hDc : va_D (fun q : Nat => L0 ≤ q) [(mm, .inr (3, [.int 0, .int (nI d), .int (nI r), .int ld, .int pl, .ref ao, .ref al, .int li, .int tl, .int mo, .ref aw, .ref aq, .int mn]))] := (hD.sub (ws' := [(mm, .inr (3, [.int 0, .int (nI d), .int (nI r), .int ld, .int pl, .ref ao, .ref al, .int li, .int tl, .int mo, .ref aw, .ref aq, .int mn]))]) [0] (by decide) rfl).weaken (fun _ z9 _ h9 => hAL _ h9)
      have hKc := hK.sub (tys' := []) [] rfl
      refine c_callB (va_runV (As := [.int 2]) (rest := []) ⟨hx, hb, hml, hown, hts⟩ (q_no l D L0 mm ao al aw aq d r 0 ld pl li tl mo mn 2) (cwV 1 hts gX3_farthestReach_X3_no rfl rfl rfl (by decide +kernel) ⟨Nat.le_of_ble_eq_true rfl, Nat.le_of_ble_eq_true rfl⟩) ⟨cP_blind, va_recv hKc hPc (ci := 3) (q0 := 0) rfl rfl, cP_of hPc hKc hDc (kE_at hE0 hAL hS)⟩ rfl rfl hl.1 rfl (lv_room (Nat.le_of_ble_eq_true rfl)) dX3_farthestReach_27 ⟨Nat.le_of_ble_eq_true rfl, Nat.le_of_ble_eq_true rfl⟩) hS (fun z9 _ ⟨k9, e9, h9⟩ => (hD.sub (ws' := [(mm, .inr (3, [.int 0, .int (nI d), .int (nI r), .int ld, .int pl, .ref ao, .ref al, .int li, .int tl, .int mo, .ref aw, .ref aq, .int mn]))]) [0] (by decide) rfl).2 k9 (z9, e9) h9) (fun z9 ⟨k9, e9, h9⟩ => (hD.sub (ws' := [(mm, .inr (3, [.int 0, .int (nI d), .int (nI r), .int ld, .int pl, .ref ao, .ref al, .int li, .int tl, .int mo, .ref aw, .ref aq, .int mn]))]) [0] (by decide) rfl).2 k9 (z9, e9) h9) (fun H1 locs hB hz1 hk1 hS => ?_)
      obtain ⟨hP, hD⟩ := c_join (ws' := [(mm, .inr (3, [.int 2, .int (nI d), .int (nI r), .int ld, .int pl, .ref ao, .ref al, .int li, .int tl, .int mo, .ref aw, .ref aq, .int mn])), (ao, .inl (cI, 4, .inl fo)), (al, .inl (cI, 31, .inl fl))]) (wr := [(ao, .inl (cI, 4, .inl fo)), (al, .inl (cI, 31, .inl fl))]) (w1 := [(mm, .inr (3, [.int 2, .int (nI d), .int (nI r), .int ld, .int pl, .ref ao, .ref al, .int li, .int tl, .int mo, .ref aw, .ref aq, .int mn]))]) hP hD [0] [1, 2] [2, 0, 1] rfl rfl (by decide) (by decide) hk1 hB rfl rfl rfl (by decide)
      generalize H1 = H at hP hS ⊢
      show W _ _ _ _ _ _ _ _ _ _ _ _ _ _ _ (F0 m 30 ls [.int 0])
      have hK1 : k2 (inR v 0 7) (inR u 0 60) = 2 := k2_n2 hp1 hn
      have hKn : ¬ k2 (inR v 0 7) (inR u 0 60) = 0 := by rw [hK1]; decide
      exact W.iret (v := 0) hx hb hRt (fun t ht hW => ⟨⟨by simp only [if_neg hKn], by rw [ht]; exact (by rw [hK1]; exact hP)⟩, hS.F ht⟩) hS.2.2 dX3_farthestReach_30
  · have hn : ¬ (inR v 0 7) := fun hp => absurd c_84 (by rw [hbv_83]; simp [hp.1, hp.2, bI])
    refine lv_aload_n hx hb dX3_farthestReach_12 rfl (lv_at hl 0 rfl) ?_
    refine lv_iconst (v := 1) hx hb dX3_farthestReach_13 (by decide) ?_
    have hPc := hP.sub (ws' := [(mm, .inr (3, [.int 0, .int (nI d), .int (nI r), .int ld, .int pl, .ref ao, .ref al, .int li, .int tl, .int mo, .ref aw, .ref aq, .int mn]))]) [0] rfl
    have hDc : va_D (fun q : Nat => L0 ≤ q) [(mm, .inr (3, [.int 0, .int (nI d), .int (nI r), .int ld, .int pl, .ref ao, .ref al, .int li, .int tl, .int mo, .ref aw, .ref aq, .int mn]))] := (hD.sub (ws' := [(mm, .inr (3, [.int 0, .int (nI d), .int (nI r), .int ld, .int pl, .ref ao, .ref al, .int li, .int tl, .int mo, .ref aw, .ref aq, .int mn]))]) [0] (by decide) rfl).weaken (fun _ z9 _ h9 => hAL _ h9)
    have hKc := hK.sub (tys' := []) [] rfl
    refine c_callB (va_runV (As := [.int 1]) (rest := []) ⟨hx, hb, hml, hown, hts⟩ (q_no l D L0 mm ao al aw aq d r 0 ld pl li tl mo mn 1) (cwV 1 hts gX3_farthestReach_X3_no rfl rfl rfl (by decide +kernel) ⟨Nat.le_of_ble_eq_true rfl, Nat.le_of_ble_eq_true rfl⟩) ⟨cP_blind, va_recv hKc hPc (ci := 3) (q0 := 0) rfl rfl, cP_of hPc hKc hDc (kE_at hE0 hAL hS)⟩ rfl rfl hl.1 rfl (lv_room (Nat.le_of_ble_eq_true rfl)) dX3_farthestReach_14 ⟨Nat.le_of_ble_eq_true rfl, Nat.le_of_ble_eq_true rfl⟩) hS (fun z9 _ ⟨k9, e9, h9⟩ => (hD.sub (ws' := [(mm, .inr (3, [.int 0, .int (nI d), .int (nI r), .int ld, .int pl, .ref ao, .ref al, .int li, .int tl, .int mo, .ref aw, .ref aq, .int mn]))]) [0] (by decide) rfl).2 k9 (z9, e9) h9) (fun z9 ⟨k9, e9, h9⟩ => (hD.sub (ws' := [(mm, .inr (3, [.int 0, .int (nI d), .int (nI r), .int ld, .int pl, .ref ao, .ref al, .int li, .int tl, .int mo, .ref aw, .ref aq, .int mn]))]) [0] (by decide) rfl).2 k9 (z9, e9) h9) (fun H1 locs hB hz1 hk1 hS => ?_)
    obtain ⟨hP, hD⟩ := c_join (ws' := [(mm, .inr (3, [.int 1, .int (nI d), .int (nI r), .int ld, .int pl, .ref ao, .ref al, .int li, .int tl, .int mo, .ref aw, .ref aq, .int mn])), (ao, .inl (cI, 4, .inl fo)), (al, .inl (cI, 31, .inl fl))]) (wr := [(ao, .inl (cI, 4, .inl fo)), (al, .inl (cI, 31, .inl fl))]) (w1 := [(mm, .inr (3, [.int 1, .int (nI d), .int (nI r), .int ld, .int pl, .ref ao, .ref al, .int li, .int tl, .int mo, .ref aw, .ref aq, .int mn]))]) hP hD [0] [1, 2] [2, 0, 1] rfl rfl (by decide) (by decide) hk1 hB rfl rfl rfl (by decide)
    generalize H1 = H at hP hS ⊢
    show W _ _ _ _ _ _ _ _ _ _ _ _ _ _ _ (F0 m 17 ls [.int 0])
    have hK1 : k2 (inR v 0 7) (inR u 0 60) = 1 := k2_n1 hn
    have hKn : ¬ k2 (inR v 0 7) (inR u 0 60) = 0 := by rw [hK1]; decide
    exact W.iret (v := 0) hx hb hRt (fun t ht hW => ⟨⟨by simp only [if_neg hKn], by rw [ht]; exact (by rw [hK1]; exact hP)⟩, hS.F ht⟩) hS.2.2 dX3_farthestReach_17
set_option maxHeartbeats 4000000 in
set_option maxRecDepth 100000 in
/-- safeDirections -/
theorem q_safeDirections (l : Launch) (D : va_G) (L0 : Nat) (cI : ClassId) (mm ao al aw aq d r : Nat) (th ld pl li tl mo mn : Int32) (fo fl : Nat → Int32) (u z : Int32) : Met l yX3_safeDirections wsX3_safeDirections ({ frames := 4, cells := 0, slots := 0, locals := 105 }) (cP L0 D [(cI, .int)] [(mm, .inr (3, [.int th, .int (nI d), .int (nI r), .int ld, .int pl, .ref ao, .ref al, .int li, .int tl, .int mo, .ref aw, .ref aq, .int mn])), (ao, .inl (cI, 4, .inl fo)), (al, .inl (cI, 31, .inl fl))] [.ref mm, .int u, .int z]) (cB (some (.int (if k1 (inR u 0 60 ∧ inR z 3 30) = 0 then nI (fb_ct (fun k => safS fo fl pl u k z.toNatClampNeg) 8) else 0))) (fun H => va_P D vwCl [(mm, .inr (3, [.int (k1 (inR u 0 60 ∧ inR z 3 30)), .int (nI d), .int (nI r), .int ld, .int pl, .ref ao, .ref al, .int li, .int tl, .int mo, .ref aw, .ref aq, .int mn])), (ao, .inl (cI, 4, .inl fo)), (al, .inl (cI, 31, .inl fl))] H) (cA [(mm, .inr (3, [.int th, .int (nI d), .int (nI r), .int ld, .int pl, .ref ao, .ref al, .int li, .int tl, .int mo, .ref aw, .ref aq, .int mn])), (ao, .inl (cI, 4, .inl fo)), (al, .inl (cI, 31, .inl fl))])) 0 0 (cA [(mm, .inr (3, [.int th, .int (nI d), .int (nI r), .int ld, .int pl, .ref ao, .ref al, .int li, .int tl, .int mo, .ref aw, .ref aq, .int mn])), (ao, .inl (cI, 4, .inl fo)), (al, .inl (cI, 31, .inl fl))]) := by
  refine Met.ofW (cc := cX3_safeDirections) (maxL := 3) (ret := (some .int)) (by decide) rfl ?_
  intro p e s m args below meth c s₁ B hml hv
  obtain ⟨rfl, hP, hK, hD0, hE0⟩ := hv
  have hx := B.exec
  have hb := B.bytes
  have hRt := B.returns
  have hts := atoms_spec (ws := wsX3_safeDirections) B.pre
  have hown : s.vm.findClass RX3 = some m.cls := findClass_of_methodNamed B.named
  have hlocks := B.notSynchronized
  have hAL : ∀ z9 : Nat, cA [(mm, .inr (3, [.int th, .int (nI d), .int (nI r), .int ld, .int pl, .ref ao, .ref al, .int li, .int tl, .int mo, .ref aw, .ref aq, .int mn])), (ao, .inl (cI, 4, .inl fo)), (al, .inl (cI, 31, .inl fl))] z9 → L0 ≤ z9 := fun z9 ⟨k9, e9, h9⟩ => hD0.2 k9 (z9, e9) h9
  have hD : va_D (cA [(mm, .inr (3, [.int th, .int (nI d), .int (nI r), .int ld, .int pl, .ref ao, .ref al, .int li, .int tl, .int mo, .ref aw, .ref aq, .int mn])), (ao, .inl (cI, 4, .inl fo)), (al, .inl (cI, 31, .inl fl))]) [(mm, .inr (3, [.int th, .int (nI d), .int (nI r), .int ld, .int pl, .ref ao, .ref al, .int li, .int tl, .int mo, .ref aw, .ref aq, .int mn])), (ao, .inl (cI, 4, .inl fo)), (al, .inl (cI, 31, .inl fl))] := ⟨hD0.1, fun k9 z9 h9 => cA_of h9⟩
  generalize hAe : cA [(mm, .inr (3, [.int th, .int (nI d), .int (nI r), .int ld, .int pl, .ref ao, .ref al, .int li, .int tl, .int mo, .ref aw, .ref aq, .int mn])), (ao, .inl (cI, 4, .inl fo)), (al, .inl (cI, 31, .inl fl))] = A at hD hAL ⊢
  have hS : va_S A s.heap s.heap [] := va_S.rf
  have hiX3 : ∀ w ∈ u_ws RX3 TX3 13, w ∈ wsX3_safeDirections := by decide +kernel
  have hl := lv_entry ([.ref mm, .int u, .int z]) (n := 3) (Nat.le_of_ble_eq_true rfl)
  rw [lg_entry_eq]
  generalize (lg_sl ([.ref mm, .int u, .int z]) ++ List.replicate (3 - (lg_sl ([.ref mm, .int u, .int z])).length) Slot.unset).toArray = ls at hl ⊢
  have hl : lv_has ls 3 [(0, .ref mm), (1, .int u), (2, .int z)] := hl
  refine lv_aload_n hx hb dX3_safeDirections_0 rfl (lv_at hl 0 rfl) ?_
  refine lv_iconst (v := 0) hx hb dX3_safeDirections_1 (by decide) ?_
  refine va_put (D := D) (ci := 3) (v := .int 0) (ty := .int) (C := RX3) (T := TX3) (N := 13) hx hb hts hiX3 tyX3 tyX3_ok nmX3 hown hK hP hD hS 0 rfl rfl 0 (by decide) (hts (.fieldLink RX3 26 "CraneReachModel" "thrown" "I") (by decide +kernel)) (fun _ h9 => h9) rfl (by decide +kernel) rfl rfl (Nat.le_of_ble_eq_true rfl) dX3_safeDirections_2 (fun H locs hP hD hS => ?_)
  have hP : va_P D vwCl [(mm, .inr (3, [.int 0, .int (nI d), .int (nI r), .int ld, .int pl, .ref ao, .ref al, .int li, .int tl, .int mo, .ref aw, .ref aq, .int mn])), (ao, .inl (cI, 4, .inl fo)), (al, .inl (cI, 31, .inl fl))] H := hP
  have hD : va_D A [(mm, .inr (3, [.int 0, .int (nI d), .int (nI r), .int ld, .int pl, .ref ao, .ref al, .int li, .int tl, .int mo, .ref aw, .ref aq, .int mn])), (ao, .inl (cI, 4, .inl fo)), (al, .inl (cI, 31, .inl fl))] := hD
  refine lv_iload_n hx hb dX3_safeDirections_5 rfl (lv_at hl 1 rfl) ?_
  have hPc := hP.sub (ws' := []) [] rfl
  have hDc : va_D (fun q : Nat => L0 ≤ q) [] := (hD.sub (ws' := []) [] (by decide) rfl).weaken (fun _ z9 _ h9 => hAL _ h9)
  have hKc := hK.sub (tys' := []) [] rfl
  refine c_callR (va_runS (As := [.int u]) (rest := []) ⟨hx, hb, hml, hown, hts⟩ (q_isLoad l D L0 u) (va_cwS 1 hts gX3_safeDirections_X3_isLoad rfl rfl rfl (by decide +kernel) ⟨Nat.le_of_ble_eq_true rfl, Nat.le_of_ble_eq_true rfl⟩) ⟨cP_blind, cP_of hPc hKc hDc (kE_at hE0 hAL hS)⟩ rfl rfl hl.1 rfl (lv_room (Nat.le_of_ble_eq_true rfl)) dX3_safeDirections_6 ⟨Nat.le_of_ble_eq_true rfl, Nat.le_of_ble_eq_true rfl⟩) ?_
  show W _ _ _ _ _ _ _ _ _ _ _ _ _ _ _ (F0 m 9 ls [.int (bI (decide (0 ≤ u) && decide (u ≤ 60)))])
  obtain ⟨b_95, hbv_96⟩ : ∃ z9 : Bool, z9 = (decide (0 ≤ u) && decide (u ≤ 60)) := ⟨_, rfl⟩
  refine c_top (show (bI (decide (0 ≤ u) && decide (u ≤ 60))) = bI b_95 from by rw [hbv_96]) ?_
  refine lv_if_eq (tgt := 28) hx hb dX3_safeDirections_9 (by decide) (fun c_97 => ?_) (fun c_97 => ?_)
  · have hn : ¬ (inR u 0 60) := fun hp => absurd c_97 (by rw [hbv_96]; simp [hp.1, hp.2, bI])
    refine lv_aload_n hx hb dX3_safeDirections_28 rfl (lv_at hl 0 rfl) ?_
    refine lv_iconst (v := 1) hx hb dX3_safeDirections_29 (by decide) ?_
    have hPc := hP.sub (ws' := [(mm, .inr (3, [.int 0, .int (nI d), .int (nI r), .int ld, .int pl, .ref ao, .ref al, .int li, .int tl, .int mo, .ref aw, .ref aq, .int mn]))]) [0] rfl
    have hDc : va_D (fun q : Nat => L0 ≤ q) [(mm, .inr (3, [.int 0, .int (nI d), .int (nI r), .int ld, .int pl, .ref ao, .ref al, .int li, .int tl, .int mo, .ref aw, .ref aq, .int mn]))] := (hD.sub (ws' := [(mm, .inr (3, [.int 0, .int (nI d), .int (nI r), .int ld, .int pl, .ref ao, .ref al, .int li, .int tl, .int mo, .ref aw, .ref aq, .int mn]))]) [0] (by decide) rfl).weaken (fun _ z9 _ h9 => hAL _ h9)
    have hKc := hK.sub (tys' := []) [] rfl
    refine c_callB (va_runV (As := [.int 1]) (rest := []) ⟨hx, hb, hml, hown, hts⟩ (q_no l D L0 mm ao al aw aq d r 0 ld pl li tl mo mn 1) (cwV 1 hts gX3_safeDirections_X3_no rfl rfl rfl (by decide +kernel) ⟨Nat.le_of_ble_eq_true rfl, Nat.le_of_ble_eq_true rfl⟩) ⟨cP_blind, va_recv hKc hPc (ci := 3) (q0 := 0) rfl rfl, cP_of hPc hKc hDc (kE_at hE0 hAL hS)⟩ rfl rfl hl.1 rfl (lv_room (Nat.le_of_ble_eq_true rfl)) dX3_safeDirections_30 ⟨Nat.le_of_ble_eq_true rfl, Nat.le_of_ble_eq_true rfl⟩) hS (fun z9 _ ⟨k9, e9, h9⟩ => (hD.sub (ws' := [(mm, .inr (3, [.int 0, .int (nI d), .int (nI r), .int ld, .int pl, .ref ao, .ref al, .int li, .int tl, .int mo, .ref aw, .ref aq, .int mn]))]) [0] (by decide) rfl).2 k9 (z9, e9) h9) (fun z9 ⟨k9, e9, h9⟩ => (hD.sub (ws' := [(mm, .inr (3, [.int 0, .int (nI d), .int (nI r), .int ld, .int pl, .ref ao, .ref al, .int li, .int tl, .int mo, .ref aw, .ref aq, .int mn]))]) [0] (by decide) rfl).2 k9 (z9, e9) h9) (fun H1 locs hB hz1 hk1 hS => ?_)
    obtain ⟨hP, hD⟩ := c_join (ws' := [(mm, .inr (3, [.int 1, .int (nI d), .int (nI r), .int ld, .int pl, .ref ao, .ref al, .int li, .int tl, .int mo, .ref aw, .ref aq, .int mn])), (ao, .inl (cI, 4, .inl fo)), (al, .inl (cI, 31, .inl fl))]) (wr := [(ao, .inl (cI, 4, .inl fo)), (al, .inl (cI, 31, .inl fl))]) (w1 := [(mm, .inr (3, [.int 1, .int (nI d), .int (nI r), .int ld, .int pl, .ref ao, .ref al, .int li, .int tl, .int mo, .ref aw, .ref aq, .int mn]))]) hP hD [0] [1, 2] [2, 0, 1] rfl rfl (by decide) (by decide) hk1 hB rfl rfl rfl (by decide)
    generalize H1 = H at hP hS ⊢
    show W _ _ _ _ _ _ _ _ _ _ _ _ _ _ _ (F0 m 33 ls [.int 0])
    have hK1 : k1 (inR u 0 60 ∧ inR z 3 30) = 1 := k1_no (fun q => hn q.1)
    have hKn : ¬ k1 (inR u 0 60 ∧ inR z 3 30) = 0 := by rw [hK1]; decide
    exact W.iret (v := 0) hx hb hRt (fun t ht hW => ⟨⟨by simp only [if_neg hKn], by rw [ht]; exact (by rw [hK1]; exact hP)⟩, hS.F ht⟩) hS.2.2 dX3_safeDirections_33
  · have hp1 : inR u 0 60 := by cases b_95 with | true => simpa using hbv_96.symm | false => exact absurd rfl c_97
    refine lv_iload_n hx hb dX3_safeDirections_12 rfl (lv_at hl 2 rfl) ?_
    have hPc := hP.sub (ws' := []) [] rfl
    have hDc : va_D (fun q : Nat => L0 ≤ q) [] := (hD.sub (ws' := []) [] (by decide) rfl).weaken (fun _ z9 _ h9 => hAL _ h9)
    have hKc := hK.sub (tys' := []) [] rfl
    refine c_callR (va_runS (As := [.int z]) (rest := []) ⟨hx, hb, hml, hown, hts⟩ (q_isReach l D L0 z) (va_cwS 1 hts gX3_safeDirections_X3_isReach rfl rfl rfl (by decide +kernel) ⟨Nat.le_of_ble_eq_true rfl, Nat.le_of_ble_eq_true rfl⟩) ⟨cP_blind, cP_of hPc hKc hDc (kE_at hE0 hAL hS)⟩ rfl rfl hl.1 rfl (lv_room (Nat.le_of_ble_eq_true rfl)) dX3_safeDirections_13 ⟨Nat.le_of_ble_eq_true rfl, Nat.le_of_ble_eq_true rfl⟩) ?_
    show W _ _ _ _ _ _ _ _ _ _ _ _ _ _ _ (F0 m 16 ls [.int (bI (decide (3 ≤ z) && decide (z ≤ 30)))])
    obtain ⟨b_98, hbv_99⟩ : ∃ z9 : Bool, z9 = (decide (3 ≤ z) && decide (z ≤ 30)) := ⟨_, rfl⟩
    refine c_top (show (bI (decide (3 ≤ z) && decide (z ≤ 30))) = bI b_98 from by rw [hbv_99]) ?_
    refine lv_if_eq (tgt := 28) hx hb dX3_safeDirections_16 (by decide) (fun c_100 => ?_) (fun c_100 => ?_)
    · have hn : ¬ (inR z 3 30) := fun hp => absurd c_100 (by rw [hbv_99]; simp [hp.1, hp.2, bI])
      refine lv_aload_n hx hb dX3_safeDirections_28 rfl (lv_at hl 0 rfl) ?_
      refine lv_iconst (v := 1) hx hb dX3_safeDirections_29 (by decide) ?_
      have hPc := hP.sub (ws' := [(mm, .inr (3, [.int 0, .int (nI d), .int (nI r), .int ld, .int pl, .ref ao, .ref al, .int li, .int tl, .int mo, .ref aw, .ref aq, .int mn]))]) [0] rfl
      have hDc : va_D (fun q : Nat => L0 ≤ q) [(mm, .inr (3, [.int 0, .int (nI d), .int (nI r), .int ld, .int pl, .ref ao, .ref al, .int li, .int tl, .int mo, .ref aw, .ref aq, .int mn]))] := (hD.sub (ws' := [(mm, .inr (3, [.int 0, .int (nI d), .int (nI r), .int ld, .int pl, .ref ao, .ref al, .int li, .int tl, .int mo, .ref aw, .ref aq, .int mn]))]) [0] (by decide) rfl).weaken (fun _ z9 _ h9 => hAL _ h9)
      have hKc := hK.sub (tys' := []) [] rfl
      refine c_callB (va_runV (As := [.int 1]) (rest := []) ⟨hx, hb, hml, hown, hts⟩ (q_no l D L0 mm ao al aw aq d r 0 ld pl li tl mo mn 1) (cwV 1 hts gX3_safeDirections_X3_no rfl rfl rfl (by decide +kernel) ⟨Nat.le_of_ble_eq_true rfl, Nat.le_of_ble_eq_true rfl⟩) ⟨cP_blind, va_recv hKc hPc (ci := 3) (q0 := 0) rfl rfl, cP_of hPc hKc hDc (kE_at hE0 hAL hS)⟩ rfl rfl hl.1 rfl (lv_room (Nat.le_of_ble_eq_true rfl)) dX3_safeDirections_30 ⟨Nat.le_of_ble_eq_true rfl, Nat.le_of_ble_eq_true rfl⟩) hS (fun z9 _ ⟨k9, e9, h9⟩ => (hD.sub (ws' := [(mm, .inr (3, [.int 0, .int (nI d), .int (nI r), .int ld, .int pl, .ref ao, .ref al, .int li, .int tl, .int mo, .ref aw, .ref aq, .int mn]))]) [0] (by decide) rfl).2 k9 (z9, e9) h9) (fun z9 ⟨k9, e9, h9⟩ => (hD.sub (ws' := [(mm, .inr (3, [.int 0, .int (nI d), .int (nI r), .int ld, .int pl, .ref ao, .ref al, .int li, .int tl, .int mo, .ref aw, .ref aq, .int mn]))]) [0] (by decide) rfl).2 k9 (z9, e9) h9) (fun H1 locs hB hz1 hk1 hS => ?_)
      obtain ⟨hP, hD⟩ := c_join (ws' := [(mm, .inr (3, [.int 1, .int (nI d), .int (nI r), .int ld, .int pl, .ref ao, .ref al, .int li, .int tl, .int mo, .ref aw, .ref aq, .int mn])), (ao, .inl (cI, 4, .inl fo)), (al, .inl (cI, 31, .inl fl))]) (wr := [(ao, .inl (cI, 4, .inl fo)), (al, .inl (cI, 31, .inl fl))]) (w1 := [(mm, .inr (3, [.int 1, .int (nI d), .int (nI r), .int ld, .int pl, .ref ao, .ref al, .int li, .int tl, .int mo, .ref aw, .ref aq, .int mn]))]) hP hD [0] [1, 2] [2, 0, 1] rfl rfl (by decide) (by decide) hk1 hB rfl rfl rfl (by decide)
      generalize H1 = H at hP hS ⊢
      show W _ _ _ _ _ _ _ _ _ _ _ _ _ _ _ (F0 m 33 ls [.int 0])
      have hK1 : k1 (inR u 0 60 ∧ inR z 3 30) = 1 := k1_no (fun q => hn q.2)
      have hKn : ¬ k1 (inR u 0 60 ∧ inR z 3 30) = 0 := by rw [hK1]; decide
      exact W.iret (v := 0) hx hb hRt (fun t ht hW => ⟨⟨by simp only [if_neg hKn], by rw [ht]; exact (by rw [hK1]; exact hP)⟩, hS.F ht⟩) hS.2.2 dX3_safeDirections_33
    · have hp2 : inR z 3 30 := by cases b_98 with | true => simpa using hbv_99.symm | false => exact absurd rfl c_100
      obtain ⟨kz, hkz, hz⟩ := inR_n3 (n := 30) (by decide) hp2
      have hl : lv_has ls 3 [(0, .ref mm), (1, .int u), (2, .int (nI kz))] := (show z = nI kz from hz) ▸ hl
      have hzn : z.toNatClampNeg = kz := by rw [hz, nI_clamp (by omega)]
      refine lv_aload_n hx hb dX3_safeDirections_19 rfl (lv_at hl 0 rfl) ?_
      refine lv_iload_n hx hb dX3_safeDirections_20 rfl (lv_at hl 1 rfl) ?_
      refine lv_iload_n hx hb dX3_safeDirections_21 rfl (lv_at hl 2 rfl) ?_
      have hPc := hP.sub (ws' := [(mm, .inr (3, [.int 0, .int (nI d), .int (nI r), .int ld, .int pl, .ref ao, .ref al, .int li, .int tl, .int mo, .ref aw, .ref aq, .int mn])), (ao, .inl (cI, 4, .inl fo)), (al, .inl (cI, 31, .inl fl))]) [0, 1, 2] rfl
      have hDc : va_D (fun q : Nat => L0 ≤ q) [(mm, .inr (3, [.int 0, .int (nI d), .int (nI r), .int ld, .int pl, .ref ao, .ref al, .int li, .int tl, .int mo, .ref aw, .ref aq, .int mn])), (ao, .inl (cI, 4, .inl fo)), (al, .inl (cI, 31, .inl fl))] := (hD.sub (ws' := [(mm, .inr (3, [.int 0, .int (nI d), .int (nI r), .int ld, .int pl, .ref ao, .ref al, .int li, .int tl, .int mo, .ref aw, .ref aq, .int mn])), (ao, .inl (cI, 4, .inl fo)), (al, .inl (cI, 31, .inl fl))]) [0, 1, 2] (by decide) rfl).weaken (fun _ z9 _ h9 => hAL _ h9)
      have hKc := hK.sub (tys' := [(cI, .int)]) [0] rfl
      refine c_callR (va_runV (As := [.int u, .int (nI kz)]) (rest := []) ⟨hx, hb, hml, hown, hts⟩ (q_safeAround l D L0 cI mm ao al aw aq d r 0 ld pl li tl mo mn fo fl u kz hkz) (cwV 2 hts gX3_safeDirections_X3_safeAround rfl rfl rfl (by decide +kernel) ⟨Nat.le_of_ble_eq_true rfl, Nat.le_of_ble_eq_true rfl⟩) ⟨cP_blind, va_recv hKc hPc (ci := 3) (q0 := 0) rfl rfl, cP_of hPc hKc hDc (kE_at hE0 hAL hS)⟩ rfl rfl hl.1 rfl (lv_room (Nat.le_of_ble_eq_true rfl)) dX3_safeDirections_22 ⟨Nat.le_of_ble_eq_true rfl, Nat.le_of_ble_eq_true rfl⟩) ?_
      show W _ _ _ _ _ _ _ _ _ _ _ _ _ _ _ (F0 m 25 ls [.int (nI (fb_ct (fun k => safS fo fl pl u k kz) 8))])
      refine lv_goto (tgt := 33) hx hb dX3_safeDirections_25 (by decide) ?_
      have hK1 : k1 (inR u 0 60 ∧ inR z 3 30) = 0 := k1_yes ⟨hp1, hp2⟩
      exact W.iret (v := (nI (fb_ct (fun k => safS fo fl pl u k kz) 8))) hx hb hRt (fun t ht hW => ⟨⟨by simp only [if_pos hK1]; rw [hzn], by rw [ht]; exact (by rw [hK1]; exact hP)⟩, hS.F ht⟩) hS.2.2 dX3_safeDirections_33
