set_option maxHeartbeats 4000000 in
set_option maxRecDepth 100000 in
/-- setPlates(plates) -/
theorem k_setPlates (l : Launch) (hfl : l.stackTraces = false) (D : va_G) (L0 : Nat) (cI : ClassId) (x rg tr pn ro rl d r : Nat) (ld li tl mo pl : Int32) (fo fl : Nat → Int32) (t0 t1 : Nat) (jp : Int32) (jo jl : Nat → Int32) (v : Int32) (hd : d < 8) (hr : 3 ≤ r ∧ r ≤ 30) : vx_Met l yX2_setPlates wsX2_setPlates ({ frames := 7, cells := 2, slots := 12, locals := 108 }) (cP L0 D [(cI, .int)] [(x, .inr (2, [.ref rg, .ref tr, .ref pn, .int (nI d), .int (nI r), .int ld, .int li, .int tl, .int mo])), (rg, .inr (1, [.ref ro, .ref rl, .int pl])), (ro, .inl (cI, 4, .inl fo)), (rl, .inl (cI, 28, .inl (sh fl))), (tr, .inr (1, [.ref t0, .ref t1, .int jp])), (t0, .inl (cI, 4, .inl jo)), (t1, .inl (cI, 28, .inl jl))] [.ref x, .int v]) (cB (some (.int pl)) (fun H => kSP (fun q => safS fo fl q ld d r) v = 0 ∧ ∃ (p9 : Int32) (o9 l9 : Nat → Int32), va_P D vwCl [(x, .inr (2, [.ref rg, .ref tr, .ref pn, .int (nI d), .int (nI r), .int ld, .int li, .int tl, .int mo])), (rg, .inr (1, [.ref ro, .ref rl, .int v])), (ro, .inl (cI, 4, .inl fo)), (rl, .inl (cI, 28, .inl (sh fl))), (tr, .inr (1, [.ref t0, .ref t1, .int p9])), (t0, .inl (cI, 4, .inl o9)), (t1, .inl (cI, 28, .inl l9))] H) (cA [(x, .inr (2, [.ref rg, .ref tr, .ref pn, .int (nI d), .int (nI r), .int ld, .int li, .int tl, .int mo])), (rg, .inr (1, [.ref ro, .ref rl, .int pl])), (ro, .inl (cI, 4, .inl fo)), (rl, .inl (cI, 28, .inl (sh fl))), (tr, .inr (1, [.ref t0, .ref t1, .int jp])), (t0, .inl (cI, 4, .inl jo)), (t1, .inl (cI, 28, .inl jl))])) (cX (fun E => (E = xIAE ∧ kSP (fun q => safS fo fl q ld d r) v = 1) ∨ (E = xISE ∧ kSP (fun q => safS fo fl q ld d r) v = 2)) (fun H => ∃ (p9 : Int32) (o9 l9 : Nat → Int32), va_P D vwCl [(x, .inr (2, [.ref rg, .ref tr, .ref pn, .int (nI d), .int (nI r), .int ld, .int li, .int tl, .int mo])), (rg, .inr (1, [.ref ro, .ref rl, .int pl])), (ro, .inl (cI, 4, .inl fo)), (rl, .inl (cI, 28, .inl (sh fl))), (tr, .inr (1, [.ref t0, .ref t1, .int p9])), (t0, .inl (cI, 4, .inl o9)), (t1, .inl (cI, 28, .inl l9))] H) (cA [(x, .inr (2, [.ref rg, .ref tr, .ref pn, .int (nI d), .int (nI r), .int ld, .int li, .int tl, .int mo])), (rg, .inr (1, [.ref ro, .ref rl, .int pl])), (ro, .inl (cI, 4, .inl fo)), (rl, .inl (cI, 28, .inl (sh fl))), (tr, .inr (1, [.ref t0, .ref t1, .int jp])), (t0, .inl (cI, 4, .inl jo)), (t1, .inl (cI, 28, .inl jl))])) 2 12 (cA [(x, .inr (2, [.ref rg, .ref tr, .ref pn, .int (nI d), .int (nI r), .int ld, .int li, .int tl, .int mo])), (rg, .inr (1, [.ref ro, .ref rl, .int pl])), (ro, .inl (cI, 4, .inl fo)), (rl, .inl (cI, 28, .inl (sh fl))), (tr, .inr (1, [.ref t0, .ref t1, .int jp])), (t0, .inl (cI, 4, .inl jo)), (t1, .inl (cI, 28, .inl jl))]) := by
  refine vx_ofW (cc := cX2_setPlates) (maxL := 3) (ret := (some .int)) (by decide) rfl ?_
  intro p e s m args below meth c s₁ B hml hxt hv
  obtain ⟨rfl, hP, hK, hD0, hE0⟩ := hv
  have hx := B.exec
  have hb := B.bytes
  have hRt := B.returns
  have hts := atoms_spec (ws := wsX2_setPlates) B.pre
  have hown : s.vm.findClass RX2 = some m.cls := findClass_of_methodNamed B.named
  have hlocks := B.notSynchronized
  have hAL : ∀ z9 : Nat, cA [(x, .inr (2, [.ref rg, .ref tr, .ref pn, .int (nI d), .int (nI r), .int ld, .int li, .int tl, .int mo])), (rg, .inr (1, [.ref ro, .ref rl, .int pl])), (ro, .inl (cI, 4, .inl fo)), (rl, .inl (cI, 28, .inl (sh fl))), (tr, .inr (1, [.ref t0, .ref t1, .int jp])), (t0, .inl (cI, 4, .inl jo)), (t1, .inl (cI, 28, .inl jl))] z9 → L0 ≤ z9 := fun z9 ⟨k9, e9, h9⟩ => hD0.2 k9 (z9, e9) h9
  have hD : va_D (cA [(x, .inr (2, [.ref rg, .ref tr, .ref pn, .int (nI d), .int (nI r), .int ld, .int li, .int tl, .int mo])), (rg, .inr (1, [.ref ro, .ref rl, .int pl])), (ro, .inl (cI, 4, .inl fo)), (rl, .inl (cI, 28, .inl (sh fl))), (tr, .inr (1, [.ref t0, .ref t1, .int jp])), (t0, .inl (cI, 4, .inl jo)), (t1, .inl (cI, 28, .inl jl))]) [(x, .inr (2, [.ref rg, .ref tr, .ref pn, .int (nI d), .int (nI r), .int ld, .int li, .int tl, .int mo])), (rg, .inr (1, [.ref ro, .ref rl, .int pl])), (ro, .inl (cI, 4, .inl fo)), (rl, .inl (cI, 28, .inl (sh fl))), (tr, .inr (1, [.ref t0, .ref t1, .int jp])), (t0, .inl (cI, 4, .inl jo)), (t1, .inl (cI, 28, .inl jl))] := ⟨hD0.1, fun k9 z9 h9 => cA_of h9⟩
  generalize hAe : cA [(x, .inr (2, [.ref rg, .ref tr, .ref pn, .int (nI d), .int (nI r), .int ld, .int li, .int tl, .int mo])), (rg, .inr (1, [.ref ro, .ref rl, .int pl])), (ro, .inl (cI, 4, .inl fo)), (rl, .inl (cI, 28, .inl (sh fl))), (tr, .inr (1, [.ref t0, .ref t1, .int jp])), (t0, .inl (cI, 4, .inl jo)), (t1, .inl (cI, 28, .inl jl))] = A at hD hAL ⊢
  have hS : va_S A s.heap s.heap [] := va_S.rf
  have hiX2 : ∀ w ∈ u_ws RX2 TX2 9, w ∈ wsX2_setPlates := by decide +kernel
  have hiX1 : ∀ w ∈ u_ws RX1 TX1 3, w ∈ wsX2_setPlates := by decide +kernel
  have hl := lv_entry ([.ref x, .int v]) (n := 3) (Nat.le_of_ble_eq_true rfl)
  rw [lg_entry_eq]
  generalize (lg_sl ([.ref x, .int v]) ++ List.replicate (3 - (lg_sl ([.ref x, .int v])).length) Slot.unset).toArray = ls at hl ⊢
  have hl : lv_has ls 3 [(0, .ref x), (1, .int v)] := hl
  have hin38 : ∀ z ∈ (vx_atS RX2 38 xIAE kSup).filter goodWord, z ∈ wsX2_setPlates := by decide +kernel
  refine lv_iload_n hx hb dX2_setPlates_0 rfl (lv_at hl 1 rfl) ?_
  refine lv_iconst (v := 0) hx hb dX2_setPlates_1 (by decide) ?_
  refine lv_bipush (v := 12) hx hb dX2_setPlates_2 (by decide) ?_
  have hPc := hP.sub (ws' := []) [] rfl
  have hDc : va_D (fun q : Nat => L0 ≤ q) [] := (hD.sub (ws' := []) [] (by decide) rfl).weaken (fun _ z9 _ h9 => hAL _ h9)
  have hKc := hK.sub (tys' := []) [] rfl
  refine c_callR (va_runS (As := [.int v, .int 0, .int 12]) (rest := []) ⟨hx, hb, hml, hown, hts⟩ (k_isWithin l D L0 v 0 12) (va_cwS 3 hts gX2_setPlates_X2_isWithin rfl rfl rfl (by decide +kernel) ⟨Nat.le_of_ble_eq_true rfl, Nat.le_of_ble_eq_true rfl⟩) ⟨cP_blind, cP_of hPc hKc hDc (kE_at hE0 hAL hS)⟩ rfl rfl hl.1 rfl (lv_room (Nat.le_of_ble_eq_true rfl)) dX2_setPlates_4 ⟨Nat.le_of_ble_eq_true rfl, Nat.le_of_ble_eq_true rfl⟩) ?_
  show W _ _ _ _ _ _ _ _ _ _ _ _ _ _ _ (F0 m 7 ls [.int (bI (decide (0 ≤ v) && decide (v ≤ 12)))])
  obtain ⟨b_1, hbv_2⟩ : ∃ z : Bool, z = (decide (0 ≤ v) && decide (v ≤ 12)) := ⟨_, rfl⟩
  refine c_top (show bI (decide (0 ≤ v) && decide (v ≤ 12)) = bI b_1 from by rw [hbv_2]) ?_
  refine lv_if_ne (tgt := 20) hx hb dX2_setPlates_7 (by decide) (fun c_3 => ?_) (fun c_3 => ?_)
  · have hp : inR v 0 12 := by cases b_1 with | true => simpa using hbv_2.symm | false => exact absurd rfl c_3
    refine lv_aload_n hx hb dX2_setPlates_20 rfl (lv_at hl 0 rfl) ?_
    refine va_get (D := D) (ci := 2) (v := .ref tr) (C := RX2) (T := TX2) (N := 9) hx hb hts hiX2 hown hK hP 0 rfl rfl 1 (by decide) (hts (.fieldLink RX2 16 "CraneReach" "trial" "LCraneReach$Rig;") (by decide +kernel)) (fun _ h9 => h9) rfl dX2_setPlates_21 ?_
    refine lv_aload_n hx hb dX2_setPlates_24 rfl (lv_at hl 0 rfl) ?_
    refine va_get (D := D) (ci := 2) (v := .ref rg) (C := RX2) (T := TX2) (N := 9) hx hb hts hiX2 hown hK hP 0 rfl rfl 0 (by decide) (hts (.fieldLink RX2 12 "CraneReach" "rig" "LCraneReach$Rig;") (by decide +kernel)) (fun _ h9 => h9) rfl dX2_setPlates_25 ?_
    have hPc := hP.sub (ws' := [(tr, .inr (1, [.ref t0, .ref t1, .int jp])), (t0, .inl (cI, 4, .inl jo)), (t1, .inl (cI, 28, .inl jl)), (rg, .inr (1, [.ref ro, .ref rl, .int pl])), (ro, .inl (cI, 4, .inl fo)), (rl, .inl (cI, 28, .inl (sh fl)))]) [4, 5, 6, 1, 2, 3] rfl
    have hDc : va_D (fun q : Nat => L0 ≤ q) [(tr, .inr (1, [.ref t0, .ref t1, .int jp])), (t0, .inl (cI, 4, .inl jo)), (t1, .inl (cI, 28, .inl jl)), (rg, .inr (1, [.ref ro, .ref rl, .int pl])), (ro, .inl (cI, 4, .inl fo)), (rl, .inl (cI, 28, .inl (sh fl)))] := (hD.sub (ws' := [(tr, .inr (1, [.ref t0, .ref t1, .int jp])), (t0, .inl (cI, 4, .inl jo)), (t1, .inl (cI, 28, .inl jl)), (rg, .inr (1, [.ref ro, .ref rl, .int pl])), (ro, .inl (cI, 4, .inl fo)), (rl, .inl (cI, 28, .inl (sh fl)))]) [4, 5, 6, 1, 2, 3] (by decide) rfl).weaken (fun _ z9 _ h9 => hAL _ h9)
    have hKc := hK.sub (tys' := [(cI, .int)]) [0] rfl
    refine c_callB (va_runV (As := [.ref rg]) (rest := []) ⟨hx, hb, hml, hown, hts⟩ (k_becomeLike l D L0 cI tr t0 t1 jp jo jl rg ro rl pl fo fl) (cwV 1 hts gX2_setPlates_X1_becomeLike rfl rfl rfl (by decide +kernel) ⟨Nat.le_of_ble_eq_true rfl, Nat.le_of_ble_eq_true rfl⟩) ⟨cP_blind, va_recv hKc hPc (ci := 1) (q0 := 0) rfl rfl, cP_of hPc hKc hDc (kE_at hE0 hAL hS)⟩ rfl rfl hl.1 rfl (lv_room (Nat.le_of_ble_eq_true rfl)) dX2_setPlates_28 ⟨Nat.le_of_ble_eq_true rfl, Nat.le_of_ble_eq_true rfl⟩) hS (fun z9 _ ⟨k9, e9, h9⟩ => (hD.sub (ws' := [(tr, .inr (1, [.ref t0, .ref t1, .int jp])), (t0, .inl (cI, 4, .inl jo)), (t1, .inl (cI, 28, .inl jl)), (rg, .inr (1, [.ref ro, .ref rl, .int pl])), (ro, .inl (cI, 4, .inl fo)), (rl, .inl (cI, 28, .inl (sh fl)))]) [4, 5, 6, 1, 2, 3] (by decide) rfl).2 k9 (z9, e9) h9) (fun z9 ⟨k9, e9, h9⟩ => (hD.sub (ws' := [(tr, .inr (1, [.ref t0, .ref t1, .int jp])), (t0, .inl (cI, 4, .inl jo)), (t1, .inl (cI, 28, .inl jl)), (rg, .inr (1, [.ref ro, .ref rl, .int pl])), (ro, .inl (cI, 4, .inl fo)), (rl, .inl (cI, 28, .inl (sh fl)))]) [4, 5, 6, 1, 2, 3] (by decide) rfl).2 k9 (z9, e9) h9) (fun H1 locs hB hz1 hk1 hS => ?_)
    obtain ⟨hP, hD⟩ := c_join (ws' := [(x, .inr (2, [.ref rg, .ref tr, .ref pn, .int (nI d), .int (nI r), .int ld, .int li, .int tl, .int mo])), (rg, .inr (1, [.ref ro, .ref rl, .int pl])), (ro, .inl (cI, 4, .inl fo)), (rl, .inl (cI, 28, .inl (sh fl))), (tr, .inr (1, [.ref t0, .ref t1, .int pl])), (t0, .inl (cI, 4, .inl fo)), (t1, .inl (cI, 28, .inl (sh fl)))]) (wr := [(x, .inr (2, [.ref rg, .ref tr, .ref pn, .int (nI d), .int (nI r), .int ld, .int li, .int tl, .int mo]))]) (w1 := [(tr, .inr (1, [.ref t0, .ref t1, .int pl])), (t0, .inl (cI, 4, .inl fo)), (t1, .inl (cI, 28, .inl (sh fl))), (rg, .inr (1, [.ref ro, .ref rl, .int pl])), (ro, .inl (cI, 4, .inl fo)), (rl, .inl (cI, 28, .inl (sh fl)))]) hP hD [4, 5, 6, 1, 2, 3] [0] [0, 4, 5, 6, 1, 2, 3] rfl rfl (by decide) (by decide) hk1 hB rfl rfl rfl (by decide)
    generalize H1 = H at hP hS ⊢
    show W _ _ _ _ _ _ _ _ _ _ _ _ _ _ _ (F0 m 31 ls [])
    refine lv_aload_n hx hb dX2_setPlates_31 rfl (lv_at hl 0 rfl) ?_
    refine va_get (D := D) (ci := 2) (v := .ref tr) (C := RX2) (T := TX2) (N := 9) hx hb hts hiX2 hown hK hP 0 rfl rfl 1 (by decide) (hts (.fieldLink RX2 16 "CraneReach" "trial" "LCraneReach$Rig;") (by decide +kernel)) (fun _ h9 => h9) rfl dX2_setPlates_32 ?_
    refine lv_iload_n hx hb dX2_setPlates_35 rfl (lv_at hl 1 rfl) ?_
    refine va_put (D := D) (ci := 1) (v := .int v) (ty := .int) (C := RX1) (T := TX1) (N := 3) hx hb hts hiX1 tyX1 tyX1_ok nmX1 hown hK hP hD hS 4 rfl rfl 2 (by decide) (hts (.fieldLink RX2 45 "CraneReach$Rig" "plates" "I") (by decide +kernel)) (fun _ h9 => h9) rfl (by decide +kernel) rfl rfl (Nat.le_of_ble_eq_true rfl) dX2_setPlates_36 (fun H locs hP hD hS => ?_)
    have hP : va_P D vwCl [(x, .inr (2, [.ref rg, .ref tr, .ref pn, .int (nI d), .int (nI r), .int ld, .int li, .int tl, .int mo])), (rg, .inr (1, [.ref ro, .ref rl, .int pl])), (ro, .inl (cI, 4, .inl fo)), (rl, .inl (cI, 28, .inl (sh fl))), (tr, .inr (1, [.ref t0, .ref t1, .int v])), (t0, .inl (cI, 4, .inl fo)), (t1, .inl (cI, 28, .inl (sh fl)))] H := hP
    have hD : va_D A [(x, .inr (2, [.ref rg, .ref tr, .ref pn, .int (nI d), .int (nI r), .int ld, .int li, .int tl, .int mo])), (rg, .inr (1, [.ref ro, .ref rl, .int pl])), (ro, .inl (cI, 4, .inl fo)), (rl, .inl (cI, 28, .inl (sh fl))), (tr, .inr (1, [.ref t0, .ref t1, .int v])), (t0, .inl (cI, 4, .inl fo)), (t1, .inl (cI, 28, .inl (sh fl)))] := hD
    refine lv_aload_n hx hb dX2_setPlates_39 rfl (lv_at hl 0 rfl) ?_
    refine lv_aload_n hx hb dX2_setPlates_40 rfl (lv_at hl 0 rfl) ?_
    refine va_get (D := D) (ci := 2) (v := .ref tr) (C := RX2) (T := TX2) (N := 9) hx hb hts hiX2 hown hK hP 0 rfl rfl 1 (by decide) (hts (.fieldLink RX2 16 "CraneReach" "trial" "LCraneReach$Rig;") (by decide +kernel)) (fun _ h9 => h9) rfl dX2_setPlates_41 ?_
    refine lv_aload_n hx hb dX2_setPlates_44 rfl (lv_at hl 0 rfl) ?_
    refine va_get (D := D) (ci := 2) (v := .int ld) (C := RX2) (T := TX2) (N := 9) hx hb hts hiX2 hown hK hP 0 rfl rfl 5 (by decide) (hts (.fieldLink RX2 48 "CraneReach" "load" "I") (by decide +kernel)) (fun _ h9 => h9) rfl dX2_setPlates_45 ?_
    have hPc := hP.sub (ws' := [(x, .inr (2, [.ref rg, .ref tr, .ref pn, .int (nI d), .int (nI r), .int ld, .int li, .int tl, .int mo])), (tr, .inr (1, [.ref t0, .ref t1, .int v])), (t0, .inl (cI, 4, .inl fo)), (t1, .inl (cI, 28, .inl (sh fl)))]) [0, 4, 5, 6] rfl
    have hDc : va_D (fun q : Nat => L0 ≤ q) [(x, .inr (2, [.ref rg, .ref tr, .ref pn, .int (nI d), .int (nI r), .int ld, .int li, .int tl, .int mo])), (tr, .inr (1, [.ref t0, .ref t1, .int v])), (t0, .inl (cI, 4, .inl fo)), (t1, .inl (cI, 28, .inl (sh fl)))] := (hD.sub (ws' := [(x, .inr (2, [.ref rg, .ref tr, .ref pn, .int (nI d), .int (nI r), .int ld, .int li, .int tl, .int mo])), (tr, .inr (1, [.ref t0, .ref t1, .int v])), (t0, .inl (cI, 4, .inl fo)), (t1, .inl (cI, 28, .inl (sh fl)))]) [0, 4, 5, 6] (by decide) rfl).weaken (fun _ z9 _ h9 => hAL _ h9)
    have hKc := hK.sub (tys' := [(cI, .int)]) [0] rfl
    refine c_callT (vx_runV (As := [.ref tr, .int ld]) (rest := []) ⟨hx, hb, hml, hown, hts⟩ (k_requireSafe l hfl D L0 cI x rg tr pn tr t0 t1 d r ld li tl mo v fo fl ld hd hr) (cwV 2 hts gX2_setPlates_X2_requireSafe rfl rfl rfl (by decide +kernel) ⟨Nat.le_of_ble_eq_true rfl, Nat.le_of_ble_eq_true rfl⟩) ⟨cP_blind, va_recv hKc hPc (ci := 2) (q0 := 0) rfl rfl, cP_of hPc hKc hDc (kE_at hE0 hAL hS)⟩ rfl rfl hl.1 rfl (lv_room (Nat.le_of_ble_eq_true rfl)) dX2_setPlates_48 ⟨Nat.le_of_ble_eq_true rfl, Nat.le_of_ble_eq_true rfl⟩) hS (fun E ce q9 H1 hE hz1 hk1 hS hce hcv hcl => ?_) (fun hsf => ?_)
    · obtain ⟨rfl, hE⟩ := hE
      have hP := c_PX hP hk1
      exact vx_out (fun z hz => (hxt z hz).elim) hlocks hce hcv hcl (fun t ht hvm => ⟨⟨Or.inr ⟨rfl, by rw [kSP, if_pos hp, if_neg hE]⟩, by rw [ht]; exact ⟨_, _, _, hP⟩⟩, hS.F ht⟩) (fun z hz => hS.2.2 z hz) (Nat.le_of_ble_eq_true rfl) (Nat.le_of_ble_eq_true rfl)
    · show W _ _ _ _ _ _ _ _ _ _ _ _ _ _ _ (F0 m 51 ls [])
      refine lv_aload_n hx hb dX2_setPlates_51 rfl (lv_at hl 0 rfl) ?_
      refine va_get (D := D) (ci := 2) (v := .ref rg) (C := RX2) (T := TX2) (N := 9) hx hb hts hiX2 hown hK hP 0 rfl rfl 0 (by decide) (hts (.fieldLink RX2 12 "CraneReach" "rig" "LCraneReach$Rig;") (by decide +kernel)) (fun _ h9 => h9) rfl dX2_setPlates_52 ?_
      refine va_get (D := D) (ci := 1) (v := .int pl) (C := RX1) (T := TX1) (N := 3) hx hb hts hiX1 hown hK hP 1 rfl rfl 2 (by decide) (hts (.fieldLink RX2 45 "CraneReach$Rig" "plates" "I") (by decide +kernel)) (fun _ h9 => h9) rfl dX2_setPlates_55 ?_
      refine lv_istore_n (lv' := [(2, .int pl), (0, .ref x), (1, .int v)]) hx hb dX2_setPlates_58 rfl hl (by decide) rfl (fun ls hl => ?_)
      refine lv_aload_n hx hb dX2_setPlates_59 rfl (lv_at hl 1 rfl) ?_
      refine va_get (D := D) (ci := 2) (v := .ref rg) (C := RX2) (T := TX2) (N := 9) hx hb hts hiX2 hown hK hP 0 rfl rfl 0 (by decide) (hts (.fieldLink RX2 12 "CraneReach" "rig" "LCraneReach$Rig;") (by decide +kernel)) (fun _ h9 => h9) rfl dX2_setPlates_60 ?_
      refine lv_iload_n hx hb dX2_setPlates_63 rfl (lv_at hl 2 rfl) ?_
      refine va_put (D := D) (ci := 1) (v := .int v) (ty := .int) (C := RX1) (T := TX1) (N := 3) hx hb hts hiX1 tyX1 tyX1_ok nmX1 hown hK hP hD hS 1 rfl rfl 2 (by decide) (hts (.fieldLink RX2 45 "CraneReach$Rig" "plates" "I") (by decide +kernel)) (fun _ h9 => h9) rfl (by decide +kernel) rfl rfl (Nat.le_of_ble_eq_true rfl) dX2_setPlates_64 (fun H locs hP hD hS => ?_)
      have hP : va_P D vwCl [(x, .inr (2, [.ref rg, .ref tr, .ref pn, .int (nI d), .int (nI r), .int ld, .int li, .int tl, .int mo])), (rg, .inr (1, [.ref ro, .ref rl, .int v])), (ro, .inl (cI, 4, .inl fo)), (rl, .inl (cI, 28, .inl (sh fl))), (tr, .inr (1, [.ref t0, .ref t1, .int v])), (t0, .inl (cI, 4, .inl fo)), (t1, .inl (cI, 28, .inl (sh fl)))] H := hP
      have hD : va_D A [(x, .inr (2, [.ref rg, .ref tr, .ref pn, .int (nI d), .int (nI r), .int ld, .int li, .int tl, .int mo])), (rg, .inr (1, [.ref ro, .ref rl, .int v])), (ro, .inl (cI, 4, .inl fo)), (rl, .inl (cI, 28, .inl (sh fl))), (tr, .inr (1, [.ref t0, .ref t1, .int v])), (t0, .inl (cI, 4, .inl fo)), (t1, .inl (cI, 28, .inl (sh fl)))] := hD
      refine lv_iload_n hx hb dX2_setPlates_67 rfl (lv_at hl 0 rfl) ?_
      refine vx_ret ?_
      refine W.widen (k := 2) (n := 12) (Nat.le_of_ble_eq_true rfl) (Nat.le_of_ble_eq_true rfl) ?_
      exact W.iret (v := pl) hx hb hRt (fun t ht hW => ⟨⟨rfl, by rw [ht]; exact ⟨by rw [kSP, if_pos hp, if_pos hsf], _, _, _, hP⟩⟩, hS.F ht⟩) hS.2.2 dX2_setPlates_68
  · have hn : ¬ inR v 0 12 := fun hp => absurd c_3 (by rw [hbv_2]; simp [hp.1, hp.2, bI])
    exact c_throw (cls := xIAE) (text := "plates must be 0 to 12") hx hb hfl hown (Or.inl rfl) (hts (.classLink RX2 34 xIAE) (by decide +kernel)) (hts (.initialized xIAE) (by decide +kernel)) hE0 hAL (by decide) (fun z hz => hts z (hin38 z hz)) (by decide +kernel) (by decide +kernel) hS hl.1 hml dX2_setPlates_10 dX2_setPlates_13 dX2_setPlates_14 dX2_setPlates_16 dX2_setPlates_19 hxt (Nat.le_of_ble_eq_true rfl) (Nat.le_of_ble_eq_true rfl) (Nat.le_of_ble_eq_true rfl) (Nat.le_of_ble_eq_true rfl) hlocks (Or.inl ⟨rfl, by rw [kSP, if_neg hn]⟩) (fun H1 hz hq => ⟨_, _, _, c_PX hP hq⟩) (fun q h => h) (fun q h => h) (Nat.le_of_ble_eq_true rfl) (Nat.le_of_ble_eq_true rfl)
set_option maxHeartbeats 4000000 in
set_option maxRecDepth 100000 in
/-- setOutrigger(side, out) -/
theorem k_setOutrigger (l : Launch) (hfl : l.stackTraces = false) (D : va_G) (L0 : Nat) (cI : ClassId) (x rg tr pn ro rl d r : Nat) (ld li tl mo pl : Int32) (fo fl : Nat → Int32) (t0 t1 : Nat) (jp : Int32) (jo jl : Nat → Int32) (v u : Int32) (hld : ¬ ld < 0) (hd : d < 8) (hr : 3 ≤ r ∧ r ≤ 30) : vx_Met l yX2_setOutrigger wsX2_setOutrigger ({ frames := 7, cells := 3, slots := 18, locals := 108 }) (cP L0 D [(cI, .int)] [(x, .inr (2, [.ref rg, .ref tr, .ref pn, .int (nI d), .int (nI r), .int ld, .int li, .int tl, .int mo])), (rg, .inr (1, [.ref ro, .ref rl, .int pl])), (ro, .inl (cI, 4, .inl fo)), (rl, .inl (cI, 28, .inl (sh fl))), (tr, .inr (1, [.ref t0, .ref t1, .int jp])), (t0, .inl (cI, 4, .inl jo)), (t1, .inl (cI, 28, .inl jl))] [.ref x, .int v, .int u]) (cB (some (.int (fo v.toNatClampNeg))) (fun H => kSO ld (fun k q => safS (upd fo k q) fl pl ld d r) v u = 0 ∧ ∃ (p9 : Int32) (o9 l9 : Nat → Int32), va_P D vwCl [(x, .inr (2, [.ref rg, .ref tr, .ref pn, .int (nI d), .int (nI r), .int ld, .int li, .int tl, .int mo])), (rg, .inr (1, [.ref ro, .ref rl, .int pl])), (ro, .inl (cI, 4, .inl (upd fo v.toNatClampNeg u))), (rl, .inl (cI, 28, .inl (sh fl))), (tr, .inr (1, [.ref t0, .ref t1, .int p9])), (t0, .inl (cI, 4, .inl o9)), (t1, .inl (cI, 28, .inl l9))] H) (cA [(x, .inr (2, [.ref rg, .ref tr, .ref pn, .int (nI d), .int (nI r), .int ld, .int li, .int tl, .int mo])), (rg, .inr (1, [.ref ro, .ref rl, .int pl])), (ro, .inl (cI, 4, .inl fo)), (rl, .inl (cI, 28, .inl (sh fl))), (tr, .inr (1, [.ref t0, .ref t1, .int jp])), (t0, .inl (cI, 4, .inl jo)), (t1, .inl (cI, 28, .inl jl))])) (cX (fun E => (E = xIOB ∧ kSO ld (fun k q => safS (upd fo k q) fl pl ld d r) v u = 1) ∨ (E = xIAE ∧ kSO ld (fun k q => safS (upd fo k q) fl pl ld d r) v u = 2) ∨ (E = xISE ∧ kSO ld (fun k q => safS (upd fo k q) fl pl ld d r) v u = 3)) (fun H => ∃ (p9 : Int32) (o9 l9 : Nat → Int32), va_P D vwCl [(x, .inr (2, [.ref rg, .ref tr, .ref pn, .int (nI d), .int (nI r), .int ld, .int li, .int tl, .int mo])), (rg, .inr (1, [.ref ro, .ref rl, .int pl])), (ro, .inl (cI, 4, .inl fo)), (rl, .inl (cI, 28, .inl (sh fl))), (tr, .inr (1, [.ref t0, .ref t1, .int p9])), (t0, .inl (cI, 4, .inl o9)), (t1, .inl (cI, 28, .inl l9))] H) (cA [(x, .inr (2, [.ref rg, .ref tr, .ref pn, .int (nI d), .int (nI r), .int ld, .int li, .int tl, .int mo])), (rg, .inr (1, [.ref ro, .ref rl, .int pl])), (ro, .inl (cI, 4, .inl fo)), (rl, .inl (cI, 28, .inl (sh fl))), (tr, .inr (1, [.ref t0, .ref t1, .int jp])), (t0, .inl (cI, 4, .inl jo)), (t1, .inl (cI, 28, .inl jl))])) 3 18 (cA [(x, .inr (2, [.ref rg, .ref tr, .ref pn, .int (nI d), .int (nI r), .int ld, .int li, .int tl, .int mo])), (rg, .inr (1, [.ref ro, .ref rl, .int pl])), (ro, .inl (cI, 4, .inl fo)), (rl, .inl (cI, 28, .inl (sh fl))), (tr, .inr (1, [.ref t0, .ref t1, .int jp])), (t0, .inl (cI, 4, .inl jo)), (t1, .inl (cI, 28, .inl jl))]) := by
  refine vx_ofW (cc := cX2_setOutrigger) (maxL := 4) (ret := (some .int)) (by decide) rfl ?_
  intro p e s m args below meth c s₁ B hml hxt hv
  obtain ⟨rfl, hP, hK, hD0, hE0⟩ := hv
  have hx := B.exec
  have hb := B.bytes
  have hRt := B.returns
  have hts := atoms_spec (ws := wsX2_setOutrigger) B.pre
  have hown : s.vm.findClass RX2 = some m.cls := findClass_of_methodNamed B.named
  have hlocks := B.notSynchronized
  have hAL : ∀ z9 : Nat, cA [(x, .inr (2, [.ref rg, .ref tr, .ref pn, .int (nI d), .int (nI r), .int ld, .int li, .int tl, .int mo])), (rg, .inr (1, [.ref ro, .ref rl, .int pl])), (ro, .inl (cI, 4, .inl fo)), (rl, .inl (cI, 28, .inl (sh fl))), (tr, .inr (1, [.ref t0, .ref t1, .int jp])), (t0, .inl (cI, 4, .inl jo)), (t1, .inl (cI, 28, .inl jl))] z9 → L0 ≤ z9 := fun z9 ⟨k9, e9, h9⟩ => hD0.2 k9 (z9, e9) h9
  have hD : va_D (cA [(x, .inr (2, [.ref rg, .ref tr, .ref pn, .int (nI d), .int (nI r), .int ld, .int li, .int tl, .int mo])), (rg, .inr (1, [.ref ro, .ref rl, .int pl])), (ro, .inl (cI, 4, .inl fo)), (rl, .inl (cI, 28, .inl (sh fl))), (tr, .inr (1, [.ref t0, .ref t1, .int jp])), (t0, .inl (cI, 4, .inl jo)), (t1, .inl (cI, 28, .inl jl))]) [(x, .inr (2, [.ref rg, .ref tr, .ref pn, .int (nI d), .int (nI r), .int ld, .int li, .int tl, .int mo])), (rg, .inr (1, [.ref ro, .ref rl, .int pl])), (ro, .inl (cI, 4, .inl fo)), (rl, .inl (cI, 28, .inl (sh fl))), (tr, .inr (1, [.ref t0, .ref t1, .int jp])), (t0, .inl (cI, 4, .inl jo)), (t1, .inl (cI, 28, .inl jl))] := ⟨hD0.1, fun k9 z9 h9 => cA_of h9⟩
  generalize hAe : cA [(x, .inr (2, [.ref rg, .ref tr, .ref pn, .int (nI d), .int (nI r), .int ld, .int li, .int tl, .int mo])), (rg, .inr (1, [.ref ro, .ref rl, .int pl])), (ro, .inl (cI, 4, .inl fo)), (rl, .inl (cI, 28, .inl (sh fl))), (tr, .inr (1, [.ref t0, .ref t1, .int jp])), (t0, .inl (cI, 4, .inl jo)), (t1, .inl (cI, 28, .inl jl))] = A at hD hAL ⊢
  have hS : va_S A s.heap s.heap [] := va_S.rf
  have hiX2 : ∀ w ∈ u_ws RX2 TX2 9, w ∈ wsX2_setOutrigger := by decide +kernel
  have hiX1 : ∀ w ∈ u_ws RX1 TX1 3, w ∈ wsX2_setOutrigger := by decide +kernel
  have hl := lv_entry ([.ref x, .int v, .int u]) (n := 4) (Nat.le_of_ble_eq_true rfl)
  rw [lg_entry_eq]
  generalize (lg_sl ([.ref x, .int v, .int u]) ++ List.replicate (4 - (lg_sl ([.ref x, .int v, .int u])).length) Slot.unset).toArray = ls at hl ⊢
  have hl : lv_has ls 4 [(0, .ref x), (1, .int v), (2, .int u)] := hl
  have hin38 : ∀ z ∈ (vx_atS RX2 38 xIAE kSup).filter goodWord, z ∈ wsX2_setOutrigger := by decide +kernel
  refine lv_iload_n hx hb dX2_setOutrigger_0 rfl (lv_at hl 1 rfl) ?_
  have hPc := hP.sub (ws' := []) [] rfl
  have hDc : va_D (fun q : Nat => L0 ≤ q) [] := (hD.sub (ws' := []) [] (by decide) rfl).weaken (fun _ z9 _ h9 => hAL _ h9)
  have hKc := hK.sub (tys' := []) [] rfl
  refine c_callT (vx_runS (As := [.int v]) (rest := []) ⟨hx, hb, hml, hown, hts⟩ (k_requireSide l hfl D L0 v) (va_cwS 1 hts gX2_setOutrigger_X2_requireSide rfl rfl rfl (by decide +kernel) ⟨Nat.le_of_ble_eq_true rfl, Nat.le_of_ble_eq_true rfl⟩) ⟨cP_blind, cP_of hPc hKc hDc (kE_at hE0 hAL hS)⟩ rfl rfl hl.1 rfl (lv_room (Nat.le_of_ble_eq_true rfl)) dX2_setOutrigger_1 ⟨Nat.le_of_ble_eq_true rfl, Nat.le_of_ble_eq_true rfl⟩) hS (fun E ce q9 H1 hE hz1 hk1 hS hce hcv hcl => ?_) (fun hp1 => ?_)
  · obtain ⟨rfl, hE⟩ := hE
    have hP := c_PX hP hk1
    exact vx_out (fun z hz => (hxt z hz).elim) hlocks hce hcv hcl (fun t ht hvm => ⟨⟨Or.inl ⟨rfl, by rw [kSO, if_neg hE]⟩, by rw [ht]; exact ⟨_, _, _, hP⟩⟩, hS.F ht⟩) (fun z hz => hS.2.2 z hz) (Nat.le_of_ble_eq_true rfl) (Nat.le_of_ble_eq_true rfl)
  · show W _ _ _ _ _ _ _ _ _ _ _ _ _ _ _ (F0 m 4 ls [])
    refine lv_iload_n hx hb dX2_setOutrigger_4 rfl (lv_at hl 2 rfl) ?_
    refine lv_iconst (v := 0) hx hb dX2_setOutrigger_5 (by decide) ?_
    refine lv_bipush (v := 6) hx hb dX2_setOutrigger_6 (by decide) ?_
    have hPc := hP.sub (ws' := []) [] rfl
    have hDc : va_D (fun q : Nat => L0 ≤ q) [] := (hD.sub (ws' := []) [] (by decide) rfl).weaken (fun _ z9 _ h9 => hAL _ h9)
    have hKc := hK.sub (tys' := []) [] rfl
    refine c_callR (va_runS (As := [.int u, .int 0, .int 6]) (rest := []) ⟨hx, hb, hml, hown, hts⟩ (k_isWithin l D L0 u 0 6) (va_cwS 3 hts gX2_setOutrigger_X2_isWithin rfl rfl rfl (by decide +kernel) ⟨Nat.le_of_ble_eq_true rfl, Nat.le_of_ble_eq_true rfl⟩) ⟨cP_blind, cP_of hPc hKc hDc (kE_at hE0 hAL hS)⟩ rfl rfl hl.1 rfl (lv_room (Nat.le_of_ble_eq_true rfl)) dX2_setOutrigger_8 ⟨Nat.le_of_ble_eq_true rfl, Nat.le_of_ble_eq_true rfl⟩) ?_
    show W _ _ _ _ _ _ _ _ _ _ _ _ _ _ _ (F0 m 11 ls [.int (bI (decide (0 ≤ u) && decide (u ≤ 6)))])
    obtain ⟨b_4, hbv_5⟩ : ∃ z : Bool, z = (decide (0 ≤ u) && decide (u ≤ 6)) := ⟨_, rfl⟩
    refine c_top (show bI (decide (0 ≤ u) && decide (u ≤ 6)) = bI b_4 from by rw [hbv_5]) ?_
    refine lv_if_ne (tgt := 24) hx hb dX2_setOutrigger_11 (by decide) (fun c_6 => ?_) (fun c_6 => ?_)
    · have hp2 : inR u 0 6 := by cases b_4 with | true => simpa using hbv_5.symm | false => exact absurd rfl c_6
      refine lv_aload_n hx hb dX2_setOutrigger_24 rfl (lv_at hl 0 rfl) ?_
      have hPc := hP.sub (ws' := [(x, .inr (2, [.ref rg, .ref tr, .ref pn, .int (nI d), .int (nI r), .int ld, .int li, .int tl, .int mo]))]) [0] rfl
      have hDc : va_D (fun q : Nat => L0 ≤ q) [(x, .inr (2, [.ref rg, .ref tr, .ref pn, .int (nI d), .int (nI r), .int ld, .int li, .int tl, .int mo]))] := (hD.sub (ws' := [(x, .inr (2, [.ref rg, .ref tr, .ref pn, .int (nI d), .int (nI r), .int ld, .int li, .int tl, .int mo]))]) [0] (by decide) rfl).weaken (fun _ z9 _ h9 => hAL _ h9)
      have hKc := hK.sub (tys' := []) [] rfl
      refine c_callT (vx_runV (As := []) (rest := []) ⟨hx, hb, hml, hown, hts⟩ (k_requireNoLoad l hfl D L0 x rg tr pn d r ld li tl mo) (cwV 0 hts gX2_setOutrigger_X2_requireNoLoad rfl rfl rfl (by decide +kernel) ⟨Nat.le_of_ble_eq_true rfl, Nat.le_of_ble_eq_true rfl⟩) ⟨cP_blind, va_recv hKc hPc (ci := 2) (q0 := 0) rfl rfl, cP_of hPc hKc hDc (kE_at hE0 hAL hS)⟩ rfl rfl hl.1 rfl (lv_room (Nat.le_of_ble_eq_true rfl)) dX2_setOutrigger_25 ⟨Nat.le_of_ble_eq_true rfl, Nat.le_of_ble_eq_true rfl⟩) hS (fun E ce q9 H1 hE hz1 hk1 hS hce hcv hcl => ?_) (fun hp3 => ?_)
      · obtain ⟨rfl, hE⟩ := hE
        have hP := c_PX hP hk1
        exact vx_out (fun z hz => (hxt z hz).elim) hlocks hce hcv hcl (fun t ht hvm => ⟨⟨Or.inr (Or.inr ⟨rfl, by rw [kSO, if_pos hp1, if_pos hp2, if_neg (fun z => hE (by rw [z.1]; decide))]⟩), by rw [ht]; exact ⟨_, _, _, hP⟩⟩, hS.F ht⟩) (fun z hz => hS.2.2 z hz) (Nat.le_of_ble_eq_true rfl) (Nat.le_of_ble_eq_true rfl)
      · show W _ _ _ _ _ _ _ _ _ _ _ _ _ _ _ (F0 m 28 ls [])
        have hl0 : ld = 0 := Int32.le_antisymm (i_nlt hp3) (i_nlt hld)
        obtain ⟨kv, hkv, hv⟩ := inR_nI (n := 3) (by decide) hp1
        have hvn : v.toNatClampNeg = kv := by rw [hv, nI_clamp (by omega)]
        have hl : lv_has ls 4 [(0, .ref x), (1, .int (nI kv)), (2, .int u)] := (show v = nI kv from hv) ▸ hl
        refine lv_aload_n hx hb dX2_setOutrigger_28 rfl (lv_at hl 0 rfl) ?_
        refine va_get (D := D) (ci := 2) (v := .ref tr) (C := RX2) (T := TX2) (N := 9) hx hb hts hiX2 hown hK hP 0 rfl rfl 1 (by decide) (hts (.fieldLink RX2 16 "CraneReach" "trial" "LCraneReach$Rig;") (by decide +kernel)) (fun _ h9 => h9) rfl dX2_setOutrigger_29 ?_
        refine lv_aload_n hx hb dX2_setOutrigger_32 rfl (lv_at hl 0 rfl) ?_
        refine va_get (D := D) (ci := 2) (v := .ref rg) (C := RX2) (T := TX2) (N := 9) hx hb hts hiX2 hown hK hP 0 rfl rfl 0 (by decide) (hts (.fieldLink RX2 12 "CraneReach" "rig" "LCraneReach$Rig;") (by decide +kernel)) (fun _ h9 => h9) rfl dX2_setOutrigger_33 ?_
        have hPc := hP.sub (ws' := [(tr, .inr (1, [.ref t0, .ref t1, .int jp])), (t0, .inl (cI, 4, .inl jo)), (t1, .inl (cI, 28, .inl jl)), (rg, .inr (1, [.ref ro, .ref rl, .int pl])), (ro, .inl (cI, 4, .inl fo)), (rl, .inl (cI, 28, .inl (sh fl)))]) [4, 5, 6, 1, 2, 3] rfl
        have hDc : va_D (fun q : Nat => L0 ≤ q) [(tr, .inr (1, [.ref t0, .ref t1, .int jp])), (t0, .inl (cI, 4, .inl jo)), (t1, .inl (cI, 28, .inl jl)), (rg, .inr (1, [.ref ro, .ref rl, .int pl])), (ro, .inl (cI, 4, .inl fo)), (rl, .inl (cI, 28, .inl (sh fl)))] := (hD.sub (ws' := [(tr, .inr (1, [.ref t0, .ref t1, .int jp])), (t0, .inl (cI, 4, .inl jo)), (t1, .inl (cI, 28, .inl jl)), (rg, .inr (1, [.ref ro, .ref rl, .int pl])), (ro, .inl (cI, 4, .inl fo)), (rl, .inl (cI, 28, .inl (sh fl)))]) [4, 5, 6, 1, 2, 3] (by decide) rfl).weaken (fun _ z9 _ h9 => hAL _ h9)
        have hKc := hK.sub (tys' := [(cI, .int)]) [0] rfl
        refine c_callB (va_runV (As := [.ref rg]) (rest := []) ⟨hx, hb, hml, hown, hts⟩ (k_becomeLike l D L0 cI tr t0 t1 jp jo jl rg ro rl pl fo fl) (cwV 1 hts gX2_setOutrigger_X1_becomeLike rfl rfl rfl (by decide +kernel) ⟨Nat.le_of_ble_eq_true rfl, Nat.le_of_ble_eq_true rfl⟩) ⟨cP_blind, va_recv hKc hPc (ci := 1) (q0 := 0) rfl rfl, cP_of hPc hKc hDc (kE_at hE0 hAL hS)⟩ rfl rfl hl.1 rfl (lv_room (Nat.le_of_ble_eq_true rfl)) dX2_setOutrigger_36 ⟨Nat.le_of_ble_eq_true rfl, Nat.le_of_ble_eq_true rfl⟩) hS (fun z9 _ ⟨k9, e9, h9⟩ => (hD.sub (ws' := [(tr, .inr (1, [.ref t0, .ref t1, .int jp])), (t0, .inl (cI, 4, .inl jo)), (t1, .inl (cI, 28, .inl jl)), (rg, .inr (1, [.ref ro, .ref rl, .int pl])), (ro, .inl (cI, 4, .inl fo)), (rl, .inl (cI, 28, .inl (sh fl)))]) [4, 5, 6, 1, 2, 3] (by decide) rfl).2 k9 (z9, e9) h9) (fun z9 ⟨k9, e9, h9⟩ => (hD.sub (ws' := [(tr, .inr (1, [.ref t0, .ref t1, .int jp])), (t0, .inl (cI, 4, .inl jo)), (t1, .inl (cI, 28, .inl jl)), (rg, .inr (1, [.ref ro, .ref rl, .int pl])), (ro, .inl (cI, 4, .inl fo)), (rl, .inl (cI, 28, .inl (sh fl)))]) [4, 5, 6, 1, 2, 3] (by decide) rfl).2 k9 (z9, e9) h9) (fun H1 locs hB hz1 hk1 hS => ?_)
        obtain ⟨hP, hD⟩ := c_join (ws' := [(x, .inr (2, [.ref rg, .ref tr, .ref pn, .int (nI d), .int (nI r), .int ld, .int li, .int tl, .int mo])), (rg, .inr (1, [.ref ro, .ref rl, .int pl])), (ro, .inl (cI, 4, .inl fo)), (rl, .inl (cI, 28, .inl (sh fl))), (tr, .inr (1, [.ref t0, .ref t1, .int pl])), (t0, .inl (cI, 4, .inl fo)), (t1, .inl (cI, 28, .inl (sh fl)))]) (wr := [(x, .inr (2, [.ref rg, .ref tr, .ref pn, .int (nI d), .int (nI r), .int ld, .int li, .int tl, .int mo]))]) (w1 := [(tr, .inr (1, [.ref t0, .ref t1, .int pl])), (t0, .inl (cI, 4, .inl fo)), (t1, .inl (cI, 28, .inl (sh fl))), (rg, .inr (1, [.ref ro, .ref rl, .int pl])), (ro, .inl (cI, 4, .inl fo)), (rl, .inl (cI, 28, .inl (sh fl)))]) hP hD [4, 5, 6, 1, 2, 3] [0] [0, 4, 5, 6, 1, 2, 3] rfl rfl (by decide) (by decide) hk1 hB rfl rfl rfl (by decide)
        generalize H1 = H at hP hS ⊢
        show W _ _ _ _ _ _ _ _ _ _ _ _ _ _ _ (F0 m 39 ls [])
        refine lv_aload_n hx hb dX2_setOutrigger_39 rfl (lv_at hl 0 rfl) ?_
        refine va_get (D := D) (ci := 2) (v := .ref tr) (C := RX2) (T := TX2) (N := 9) hx hb hts hiX2 hown hK hP 0 rfl rfl 1 (by decide) (hts (.fieldLink RX2 16 "CraneReach" "trial" "LCraneReach$Rig;") (by decide +kernel)) (fun _ h9 => h9) rfl dX2_setOutrigger_40 ?_
        refine lv_iload_n hx hb dX2_setOutrigger_43 rfl (lv_at hl 1 rfl) ?_
        refine lv_iload_n hx hb dX2_setOutrigger_44 rfl (lv_at hl 2 rfl) ?_
        have hPc := hP.sub (ws' := [(tr, .inr (1, [.ref t0, .ref t1, .int pl])), (t0, .inl (cI, 4, .inl fo)), (t1, .inl (cI, 28, .inl (sh fl)))]) [4, 5, 6] rfl
        have hDc : va_D (fun q : Nat => L0 ≤ q) [(tr, .inr (1, [.ref t0, .ref t1, .int pl])), (t0, .inl (cI, 4, .inl fo)), (t1, .inl (cI, 28, .inl (sh fl)))] := (hD.sub (ws' := [(tr, .inr (1, [.ref t0, .ref t1, .int pl])), (t0, .inl (cI, 4, .inl fo)), (t1, .inl (cI, 28, .inl (sh fl)))]) [4, 5, 6] (by decide) rfl).weaken (fun _ z9 _ h9 => hAL _ h9)
        have hKc := hK.sub (tys' := [(cI, .int)]) [0] rfl
        refine c_callB (va_runV (As := [.int (nI kv), .int u]) (rest := []) ⟨hx, hb, hml, hown, hts⟩ (k_draw l D L0 cI tr t0 t1 pl fo (sh fl) kv u (by omega)) (cwV 2 hts gX2_setOutrigger_X1_draw rfl rfl rfl (by decide +kernel) ⟨Nat.le_of_ble_eq_true rfl, Nat.le_of_ble_eq_true rfl⟩) ⟨cP_blind, va_recv hKc hPc (ci := 1) (q0 := 0) rfl rfl, cP_of hPc hKc hDc (kE_at hE0 hAL hS)⟩ rfl rfl hl.1 rfl (lv_room (Nat.le_of_ble_eq_true rfl)) dX2_setOutrigger_45 ⟨Nat.le_of_ble_eq_true rfl, Nat.le_of_ble_eq_true rfl⟩) hS (fun z9 _ ⟨k9, e9, h9⟩ => (hD.sub (ws' := [(tr, .inr (1, [.ref t0, .ref t1, .int pl])), (t0, .inl (cI, 4, .inl fo)), (t1, .inl (cI, 28, .inl (sh fl)))]) [4, 5, 6] (by decide) rfl).2 k9 (z9, e9) h9) (fun z9 ⟨k9, e9, h9⟩ => (hD.sub (ws' := [(tr, .inr (1, [.ref t0, .ref t1, .int pl])), (t0, .inl (cI, 4, .inl fo)), (t1, .inl (cI, 28, .inl (sh fl)))]) [4, 5, 6] (by decide) rfl).2 k9 (z9, e9) h9) (fun H1 locs hB hz1 hk1 hS => ?_)
        obtain ⟨hP, hD⟩ := c_join (ws' := [(x, .inr (2, [.ref rg, .ref tr, .ref pn, .int (nI d), .int (nI r), .int ld, .int li, .int tl, .int mo])), (rg, .inr (1, [.ref ro, .ref rl, .int pl])), (ro, .inl (cI, 4, .inl fo)), (rl, .inl (cI, 28, .inl (sh fl))), (tr, .inr (1, [.ref t0, .ref t1, .int pl])), (t0, .inl (cI, 4, .inl (upd fo kv u))), (t1, .inl (cI, 28, .inl (sh fl)))]) (wr := [(x, .inr (2, [.ref rg, .ref tr, .ref pn, .int (nI d), .int (nI r), .int ld, .int li, .int tl, .int mo])), (rg, .inr (1, [.ref ro, .ref rl, .int pl])), (ro, .inl (cI, 4, .inl fo)), (rl, .inl (cI, 28, .inl (sh fl)))]) (w1 := [(tr, .inr (1, [.ref t0, .ref t1, .int pl])), (t0, .inl (cI, 4, .inl (upd fo kv u))), (t1, .inl (cI, 28, .inl (sh fl)))]) hP hD [4, 5, 6] [0, 1, 2, 3] [0, 1, 2, 3, 4, 5, 6] rfl rfl (by decide) (by decide) hk1 hB rfl rfl rfl (by decide)
        generalize H1 = H at hP hS ⊢
        show W _ _ _ _ _ _ _ _ _ _ _ _ _ _ _ (F0 m 48 ls [])
        refine lv_aload_n hx hb dX2_setOutrigger_48 rfl (lv_at hl 0 rfl) ?_
        refine lv_aload_n hx hb dX2_setOutrigger_49 rfl (lv_at hl 0 rfl) ?_
        refine va_get (D := D) (ci := 2) (v := .ref tr) (C := RX2) (T := TX2) (N := 9) hx hb hts hiX2 hown hK hP 0 rfl rfl 1 (by decide) (hts (.fieldLink RX2 16 "CraneReach" "trial" "LCraneReach$Rig;") (by decide +kernel)) (fun _ h9 => h9) rfl dX2_setOutrigger_50 ?_
        refine lv_aload_n hx hb dX2_setOutrigger_53 rfl (lv_at hl 0 rfl) ?_
        refine va_get (D := D) (ci := 2) (v := .int ld) (C := RX2) (T := TX2) (N := 9) hx hb hts hiX2 hown hK hP 0 rfl rfl 5 (by decide) (hts (.fieldLink RX2 48 "CraneReach" "load" "I") (by decide +kernel)) (fun _ h9 => h9) rfl dX2_setOutrigger_54 ?_
        have hPc := hP.sub (ws' := [(x, .inr (2, [.ref rg, .ref tr, .ref pn, .int (nI d), .int (nI r), .int ld, .int li, .int tl, .int mo])), (tr, .inr (1, [.ref t0, .ref t1, .int pl])), (t0, .inl (cI, 4, .inl (upd fo kv u))), (t1, .inl (cI, 28, .inl (sh fl)))]) [0, 4, 5, 6] rfl
        have hDc : va_D (fun q : Nat => L0 ≤ q) [(x, .inr (2, [.ref rg, .ref tr, .ref pn, .int (nI d), .int (nI r), .int ld, .int li, .int tl, .int mo])), (tr, .inr (1, [.ref t0, .ref t1, .int pl])), (t0, .inl (cI, 4, .inl (upd fo kv u))), (t1, .inl (cI, 28, .inl (sh fl)))] := (hD.sub (ws' := [(x, .inr (2, [.ref rg, .ref tr, .ref pn, .int (nI d), .int (nI r), .int ld, .int li, .int tl, .int mo])), (tr, .inr (1, [.ref t0, .ref t1, .int pl])), (t0, .inl (cI, 4, .inl (upd fo kv u))), (t1, .inl (cI, 28, .inl (sh fl)))]) [0, 4, 5, 6] (by decide) rfl).weaken (fun _ z9 _ h9 => hAL _ h9)
        have hKc := hK.sub (tys' := [(cI, .int)]) [0] rfl
        refine c_callT (vx_runV (As := [.ref tr, .int ld]) (rest := []) ⟨hx, hb, hml, hown, hts⟩ (k_requireSafe l hfl D L0 cI x rg tr pn tr t0 t1 d r ld li tl mo pl (upd fo kv u) fl ld hd hr) (cwV 2 hts gX2_setOutrigger_X2_requireSafe rfl rfl rfl (by decide +kernel) ⟨Nat.le_of_ble_eq_true rfl, Nat.le_of_ble_eq_true rfl⟩) ⟨cP_blind, va_recv hKc hPc (ci := 2) (q0 := 0) rfl rfl, cP_of hPc hKc hDc (kE_at hE0 hAL hS)⟩ rfl rfl hl.1 rfl (lv_room (Nat.le_of_ble_eq_true rfl)) dX2_setOutrigger_57 ⟨Nat.le_of_ble_eq_true rfl, Nat.le_of_ble_eq_true rfl⟩) hS (fun E ce q9 H1 hE hz1 hk1 hS hce hcv hcl => ?_) (fun hsf => ?_)
        · obtain ⟨rfl, hE⟩ := hE
          have hP := c_PX hP hk1
          exact vx_out (fun z hz => (hxt z hz).elim) hlocks hce hcv hcl (fun t ht hvm => ⟨⟨Or.inr (Or.inr ⟨rfl, by rw [kSO, if_pos hp1, if_pos hp2, if_neg (fun z => hE (by rw [hvn] at z; exact z.2))]⟩), by rw [ht]; exact ⟨_, _, _, hP⟩⟩, hS.F ht⟩) (fun z hz => hS.2.2 z hz) (Nat.le_of_ble_eq_true rfl) (Nat.le_of_ble_eq_true rfl)
        · show W _ _ _ _ _ _ _ _ _ _ _ _ _ _ _ (F0 m 60 ls [])
          refine lv_aload_n hx hb dX2_setOutrigger_60 rfl (lv_at hl 0 rfl) ?_
          refine va_get (D := D) (ci := 2) (v := .ref rg) (C := RX2) (T := TX2) (N := 9) hx hb hts hiX2 hown hK hP 0 rfl rfl 0 (by decide) (hts (.fieldLink RX2 12 "CraneReach" "rig" "LCraneReach$Rig;") (by decide +kernel)) (fun _ h9 => h9) rfl dX2_setOutrigger_61 ?_
          refine lv_iload_n hx hb dX2_setOutrigger_64 rfl (lv_at hl 1 rfl) ?_
          have hPc := hP.sub (ws' := [(rg, .inr (1, [.ref ro, .ref rl, .int pl])), (ro, .inl (cI, 4, .inl fo)), (rl, .inl (cI, 28, .inl (sh fl)))]) [1, 2, 3] rfl
          have hDc : va_D (fun q : Nat => L0 ≤ q) [(rg, .inr (1, [.ref ro, .ref rl, .int pl])), (ro, .inl (cI, 4, .inl fo)), (rl, .inl (cI, 28, .inl (sh fl)))] := (hD.sub (ws' := [(rg, .inr (1, [.ref ro, .ref rl, .int pl])), (ro, .inl (cI, 4, .inl fo)), (rl, .inl (cI, 28, .inl (sh fl)))]) [1, 2, 3] (by decide) rfl).weaken (fun _ z9 _ h9 => hAL _ h9)
          have hKc := hK.sub (tys' := [(cI, .int)]) [0] rfl
          refine c_callR (va_runV (As := [.int (nI kv)]) (rest := []) ⟨hx, hb, hml, hown, hts⟩ (k_drawn l D L0 cI rg ro rl pl fo (sh fl) kv (by omega)) (cwV 1 hts gX2_setOutrigger_X1_drawn rfl rfl rfl (by decide +kernel) ⟨Nat.le_of_ble_eq_true rfl, Nat.le_of_ble_eq_true rfl⟩) ⟨cP_blind, va_recv hKc hPc (ci := 1) (q0 := 0) rfl rfl, cP_of hPc hKc hDc (kE_at hE0 hAL hS)⟩ rfl rfl hl.1 rfl (lv_room (Nat.le_of_ble_eq_true rfl)) dX2_setOutrigger_65 ⟨Nat.le_of_ble_eq_true rfl, Nat.le_of_ble_eq_true rfl⟩) ?_
          show W _ _ _ _ _ _ _ _ _ _ _ _ _ _ _ (F0 m 68 ls [.int (fo kv)])
          refine lv_istore_n (lv' := [(3, .int (fo kv)), (0, .ref x), (1, .int (nI kv)), (2, .int u)]) hx hb dX2_setOutrigger_68 rfl hl (by decide) rfl (fun ls hl => ?_)
          refine lv_aload_n hx hb dX2_setOutrigger_69 rfl (lv_at hl 1 rfl) ?_
          refine va_get (D := D) (ci := 2) (v := .ref rg) (C := RX2) (T := TX2) (N := 9) hx hb hts hiX2 hown hK hP 0 rfl rfl 0 (by decide) (hts (.fieldLink RX2 12 "CraneReach" "rig" "LCraneReach$Rig;") (by decide +kernel)) (fun _ h9 => h9) rfl dX2_setOutrigger_70 ?_
          refine lv_iload_n hx hb dX2_setOutrigger_73 rfl (lv_at hl 2 rfl) ?_
          refine lv_iload_n hx hb dX2_setOutrigger_74 rfl (lv_at hl 3 rfl) ?_
          have hPc := hP.sub (ws' := [(rg, .inr (1, [.ref ro, .ref rl, .int pl])), (ro, .inl (cI, 4, .inl fo)), (rl, .inl (cI, 28, .inl (sh fl)))]) [1, 2, 3] rfl
          have hDc : va_D (fun q : Nat => L0 ≤ q) [(rg, .inr (1, [.ref ro, .ref rl, .int pl])), (ro, .inl (cI, 4, .inl fo)), (rl, .inl (cI, 28, .inl (sh fl)))] := (hD.sub (ws' := [(rg, .inr (1, [.ref ro, .ref rl, .int pl])), (ro, .inl (cI, 4, .inl fo)), (rl, .inl (cI, 28, .inl (sh fl)))]) [1, 2, 3] (by decide) rfl).weaken (fun _ z9 _ h9 => hAL _ h9)
          have hKc := hK.sub (tys' := [(cI, .int)]) [0] rfl
          refine c_callB (va_runV (As := [.int (nI kv), .int u]) (rest := []) ⟨hx, hb, hml, hown, hts⟩ (k_draw l D L0 cI rg ro rl pl fo (sh fl) kv u (by omega)) (cwV 2 hts gX2_setOutrigger_X1_draw rfl rfl rfl (by decide +kernel) ⟨Nat.le_of_ble_eq_true rfl, Nat.le_of_ble_eq_true rfl⟩) ⟨cP_blind, va_recv hKc hPc (ci := 1) (q0 := 0) rfl rfl, cP_of hPc hKc hDc (kE_at hE0 hAL hS)⟩ rfl rfl hl.1 rfl (lv_room (Nat.le_of_ble_eq_true rfl)) dX2_setOutrigger_75 ⟨Nat.le_of_ble_eq_true rfl, Nat.le_of_ble_eq_true rfl⟩) hS (fun z9 _ ⟨k9, e9, h9⟩ => (hD.sub (ws' := [(rg, .inr (1, [.ref ro, .ref rl, .int pl])), (ro, .inl (cI, 4, .inl fo)), (rl, .inl (cI, 28, .inl (sh fl)))]) [1, 2, 3] (by decide) rfl).2 k9 (z9, e9) h9) (fun z9 ⟨k9, e9, h9⟩ => (hD.sub (ws' := [(rg, .inr (1, [.ref ro, .ref rl, .int pl])), (ro, .inl (cI, 4, .inl fo)), (rl, .inl (cI, 28, .inl (sh fl)))]) [1, 2, 3] (by decide) rfl).2 k9 (z9, e9) h9) (fun H1 locs hB hz1 hk1 hS => ?_)
          obtain ⟨hP, hD⟩ := c_join (ws' := [(x, .inr (2, [.ref rg, .ref tr, .ref pn, .int (nI d), .int (nI r), .int ld, .int li, .int tl, .int mo])), (rg, .inr (1, [.ref ro, .ref rl, .int pl])), (ro, .inl (cI, 4, .inl (upd fo kv u))), (rl, .inl (cI, 28, .inl (sh fl))), (tr, .inr (1, [.ref t0, .ref t1, .int pl])), (t0, .inl (cI, 4, .inl (upd fo kv u))), (t1, .inl (cI, 28, .inl (sh fl)))]) (wr := [(x, .inr (2, [.ref rg, .ref tr, .ref pn, .int (nI d), .int (nI r), .int ld, .int li, .int tl, .int mo])), (tr, .inr (1, [.ref t0, .ref t1, .int pl])), (t0, .inl (cI, 4, .inl (upd fo kv u))), (t1, .inl (cI, 28, .inl (sh fl)))]) (w1 := [(rg, .inr (1, [.ref ro, .ref rl, .int pl])), (ro, .inl (cI, 4, .inl (upd fo kv u))), (rl, .inl (cI, 28, .inl (sh fl)))]) hP hD [1, 2, 3] [0, 4, 5, 6] [0, 4, 5, 6, 1, 2, 3] rfl rfl (by decide) (by decide) hk1 hB rfl rfl rfl (by decide)
          generalize H1 = H at hP hS ⊢
          show W _ _ _ _ _ _ _ _ _ _ _ _ _ _ _ (F0 m 78 ls [])
          refine lv_iload_n hx hb dX2_setOutrigger_78 rfl (lv_at hl 0 rfl) ?_
          rw [← hvn] at hP
          refine vx_ret ?_
          refine W.widen (k := 3) (n := 18) (Nat.le_of_ble_eq_true rfl) (Nat.le_of_ble_eq_true rfl) ?_
          exact W.iret (v := (fo kv)) hx hb hRt (fun t ht hW => ⟨⟨by rw [hvn], by rw [ht]; exact ⟨by rw [kSO, if_pos hp1, if_pos hp2, hvn, if_pos ⟨hl0, hsf⟩], _, _, _, hP⟩⟩, hS.F ht⟩) hS.2.2 dX2_setOutrigger_79
    · have hn : ¬ inR u 0 6 := fun hp => absurd c_6 (by rw [hbv_5]; simp [hp.1, hp.2, bI])
      exact c_throw (cls := xIAE) (text := "out must be 0 to 6") hx hb hfl hown (Or.inl rfl) (hts (.classLink RX2 34 xIAE) (by decide +kernel)) (hts (.initialized xIAE) (by decide +kernel)) hE0 hAL (by decide) (fun z hz => hts z (hin38 z hz)) (by decide +kernel) (by decide +kernel) hS hl.1 hml dX2_setOutrigger_14 dX2_setOutrigger_17 dX2_setOutrigger_18 dX2_setOutrigger_20 dX2_setOutrigger_23 hxt (Nat.le_of_ble_eq_true rfl) (Nat.le_of_ble_eq_true rfl) (Nat.le_of_ble_eq_true rfl) (Nat.le_of_ble_eq_true rfl) hlocks (Or.inr (Or.inl ⟨rfl, by rw [kSO, if_pos hp1, if_neg hn]⟩)) (fun H1 hz hq => ⟨_, _, _, c_PX hP hq⟩) (fun q h => h) (fun q h => h) (Nat.le_of_ble_eq_true rfl) (Nat.le_of_ble_eq_true rfl)
set_option maxHeartbeats 4000000 in
set_option maxRecDepth 100000 in
/-- setLimit(reach, limit) -/
theorem k_setLimit (l : Launch) (hfl : l.stackTraces = false) (D : va_G) (L0 : Nat) (cI : ClassId) (x rg tr pn ro rl d r : Nat) (ld li tl mo pl : Int32) (fo fl : Nat → Int32) (t0 t1 : Nat) (jp : Int32) (jo jl : Nat → Int32) (v u : Int32) (hd : d < 8) (hr : 3 ≤ r ∧ r ≤ 30) : vx_Met l yX2_setLimit wsX2_setLimit ({ frames := 7, cells := 2, slots := 12, locals := 108 }) (cP L0 D [(cI, .int)] [(x, .inr (2, [.ref rg, .ref tr, .ref pn, .int (nI d), .int (nI r), .int ld, .int li, .int tl, .int mo])), (rg, .inr (1, [.ref ro, .ref rl, .int pl])), (ro, .inl (cI, 4, .inl fo)), (rl, .inl (cI, 28, .inl (sh fl))), (tr, .inr (1, [.ref t0, .ref t1, .int jp])), (t0, .inl (cI, 4, .inl jo)), (t1, .inl (cI, 28, .inl jl))] [.ref x, .int v, .int u]) (cB (some (.int (fl v.toNatClampNeg))) (fun H => kSL (fun k q => safS fo (upd fl k q) pl ld d r) v u = 0 ∧ ∃ (p9 : Int32) (o9 l9 : Nat → Int32), va_P D vwCl [(x, .inr (2, [.ref rg, .ref tr, .ref pn, .int (nI d), .int (nI r), .int ld, .int li, .int tl, .int mo])), (rg, .inr (1, [.ref ro, .ref rl, .int pl])), (ro, .inl (cI, 4, .inl fo)), (rl, .inl (cI, 28, .inl (sh (upd fl v.toNatClampNeg u)))), (tr, .inr (1, [.ref t0, .ref t1, .int p9])), (t0, .inl (cI, 4, .inl o9)), (t1, .inl (cI, 28, .inl l9))] H) (cA [(x, .inr (2, [.ref rg, .ref tr, .ref pn, .int (nI d), .int (nI r), .int ld, .int li, .int tl, .int mo])), (rg, .inr (1, [.ref ro, .ref rl, .int pl])), (ro, .inl (cI, 4, .inl fo)), (rl, .inl (cI, 28, .inl (sh fl))), (tr, .inr (1, [.ref t0, .ref t1, .int jp])), (t0, .inl (cI, 4, .inl jo)), (t1, .inl (cI, 28, .inl jl))])) (cX (fun E => (E = xIAE ∧ kSL (fun k q => safS fo (upd fl k q) pl ld d r) v u = 1) ∨ (E = xISE ∧ kSL (fun k q => safS fo (upd fl k q) pl ld d r) v u = 2)) (fun H => ∃ (p9 : Int32) (o9 l9 : Nat → Int32), va_P D vwCl [(x, .inr (2, [.ref rg, .ref tr, .ref pn, .int (nI d), .int (nI r), .int ld, .int li, .int tl, .int mo])), (rg, .inr (1, [.ref ro, .ref rl, .int pl])), (ro, .inl (cI, 4, .inl fo)), (rl, .inl (cI, 28, .inl (sh fl))), (tr, .inr (1, [.ref t0, .ref t1, .int p9])), (t0, .inl (cI, 4, .inl o9)), (t1, .inl (cI, 28, .inl l9))] H) (cA [(x, .inr (2, [.ref rg, .ref tr, .ref pn, .int (nI d), .int (nI r), .int ld, .int li, .int tl, .int mo])), (rg, .inr (1, [.ref ro, .ref rl, .int pl])), (ro, .inl (cI, 4, .inl fo)), (rl, .inl (cI, 28, .inl (sh fl))), (tr, .inr (1, [.ref t0, .ref t1, .int jp])), (t0, .inl (cI, 4, .inl jo)), (t1, .inl (cI, 28, .inl jl))])) 2 12 (cA [(x, .inr (2, [.ref rg, .ref tr, .ref pn, .int (nI d), .int (nI r), .int ld, .int li, .int tl, .int mo])), (rg, .inr (1, [.ref ro, .ref rl, .int pl])), (ro, .inl (cI, 4, .inl fo)), (rl, .inl (cI, 28, .inl (sh fl))), (tr, .inr (1, [.ref t0, .ref t1, .int jp])), (t0, .inl (cI, 4, .inl jo)), (t1, .inl (cI, 28, .inl jl))]) := by
  refine vx_ofW (cc := cX2_setLimit) (maxL := 4) (ret := (some .int)) (by decide) rfl ?_
  intro p e s m args below meth c s₁ B hml hxt hv
  obtain ⟨rfl, hP, hK, hD0, hE0⟩ := hv
  have hx := B.exec
  have hb := B.bytes
  have hRt := B.returns
  have hts := atoms_spec (ws := wsX2_setLimit) B.pre
  have hown : s.vm.findClass RX2 = some m.cls := findClass_of_methodNamed B.named
  have hlocks := B.notSynchronized
  have hAL : ∀ z9 : Nat, cA [(x, .inr (2, [.ref rg, .ref tr, .ref pn, .int (nI d), .int (nI r), .int ld, .int li, .int tl, .int mo])), (rg, .inr (1, [.ref ro, .ref rl, .int pl])), (ro, .inl (cI, 4, .inl fo)), (rl, .inl (cI, 28, .inl (sh fl))), (tr, .inr (1, [.ref t0, .ref t1, .int jp])), (t0, .inl (cI, 4, .inl jo)), (t1, .inl (cI, 28, .inl jl))] z9 → L0 ≤ z9 := fun z9 ⟨k9, e9, h9⟩ => hD0.2 k9 (z9, e9) h9
  have hD : va_D (cA [(x, .inr (2, [.ref rg, .ref tr, .ref pn, .int (nI d), .int (nI r), .int ld, .int li, .int tl, .int mo])), (rg, .inr (1, [.ref ro, .ref rl, .int pl])), (ro, .inl (cI, 4, .inl fo)), (rl, .inl (cI, 28, .inl (sh fl))), (tr, .inr (1, [.ref t0, .ref t1, .int jp])), (t0, .inl (cI, 4, .inl jo)), (t1, .inl (cI, 28, .inl jl))]) [(x, .inr (2, [.ref rg, .ref tr, .ref pn, .int (nI d), .int (nI r), .int ld, .int li, .int tl, .int mo])), (rg, .inr (1, [.ref ro, .ref rl, .int pl])), (ro, .inl (cI, 4, .inl fo)), (rl, .inl (cI, 28, .inl (sh fl))), (tr, .inr (1, [.ref t0, .ref t1, .int jp])), (t0, .inl (cI, 4, .inl jo)), (t1, .inl (cI, 28, .inl jl))] := ⟨hD0.1, fun k9 z9 h9 => cA_of h9⟩
  generalize hAe : cA [(x, .inr (2, [.ref rg, .ref tr, .ref pn, .int (nI d), .int (nI r), .int ld, .int li, .int tl, .int mo])), (rg, .inr (1, [.ref ro, .ref rl, .int pl])), (ro, .inl (cI, 4, .inl fo)), (rl, .inl (cI, 28, .inl (sh fl))), (tr, .inr (1, [.ref t0, .ref t1, .int jp])), (t0, .inl (cI, 4, .inl jo)), (t1, .inl (cI, 28, .inl jl))] = A at hD hAL ⊢
  have hS : va_S A s.heap s.heap [] := va_S.rf
  have hiX2 : ∀ w ∈ u_ws RX2 TX2 9, w ∈ wsX2_setLimit := by decide +kernel
  have hiX1 : ∀ w ∈ u_ws RX1 TX1 3, w ∈ wsX2_setLimit := by decide +kernel
  have hl := lv_entry ([.ref x, .int v, .int u]) (n := 4) (Nat.le_of_ble_eq_true rfl)
  rw [lg_entry_eq]
  generalize (lg_sl ([.ref x, .int v, .int u]) ++ List.replicate (4 - (lg_sl ([.ref x, .int v, .int u])).length) Slot.unset).toArray = ls at hl ⊢
  have hl : lv_has ls 4 [(0, .ref x), (1, .int v), (2, .int u)] := hl
  have hin38 : ∀ z ∈ (vx_atS RX2 38 xIAE kSup).filter goodWord, z ∈ wsX2_setLimit := by decide +kernel
  refine lv_iload_n hx hb dX2_setLimit_0 rfl (lv_at hl 1 rfl) ?_
  have hPc := hP.sub (ws' := []) [] rfl
  have hDc : va_D (fun q : Nat => L0 ≤ q) [] := (hD.sub (ws' := []) [] (by decide) rfl).weaken (fun _ z9 _ h9 => hAL _ h9)
  have hKc := hK.sub (tys' := []) [] rfl
  refine c_callT (vx_runS (As := [.int v]) (rest := []) ⟨hx, hb, hml, hown, hts⟩ (k_requireReach l hfl D L0 v) (va_cwS 1 hts gX2_setLimit_X2_requireReach rfl rfl rfl (by decide +kernel) ⟨Nat.le_of_ble_eq_true rfl, Nat.le_of_ble_eq_true rfl⟩) ⟨cP_blind, cP_of hPc hKc hDc (kE_at hE0 hAL hS)⟩ rfl rfl hl.1 rfl (lv_room (Nat.le_of_ble_eq_true rfl)) dX2_setLimit_1 ⟨Nat.le_of_ble_eq_true rfl, Nat.le_of_ble_eq_true rfl⟩) hS (fun E ce q9 H1 hE hz1 hk1 hS hce hcv hcl => ?_) (fun hp1 => ?_)
  · obtain ⟨rfl, hE⟩ := hE
    have hP := c_PX hP hk1
    exact vx_out (fun z hz => (hxt z hz).elim) hlocks hce hcv hcl (fun t ht hvm => ⟨⟨Or.inl ⟨rfl, by rw [kSL, if_neg (fun z => hE z.1)]⟩, by rw [ht]; exact ⟨_, _, _, hP⟩⟩, hS.F ht⟩) (fun z hz => hS.2.2 z hz) (Nat.le_of_ble_eq_true rfl) (Nat.le_of_ble_eq_true rfl)
  · show W _ _ _ _ _ _ _ _ _ _ _ _ _ _ _ (F0 m 4 ls [])
    refine lv_iload_n hx hb dX2_setLimit_4 rfl (lv_at hl 2 rfl) ?_
    refine lv_iconst (v := 0) hx hb dX2_setLimit_5 (by decide) ?_
    refine lv_bipush (v := 60) hx hb dX2_setLimit_6 (by decide) ?_
    have hPc := hP.sub (ws' := []) [] rfl
    have hDc : va_D (fun q : Nat => L0 ≤ q) [] := (hD.sub (ws' := []) [] (by decide) rfl).weaken (fun _ z9 _ h9 => hAL _ h9)
    have hKc := hK.sub (tys' := []) [] rfl
    refine c_callR (va_runS (As := [.int u, .int 0, .int 60]) (rest := []) ⟨hx, hb, hml, hown, hts⟩ (k_isWithin l D L0 u 0 60) (va_cwS 3 hts gX2_setLimit_X2_isWithin rfl rfl rfl (by decide +kernel) ⟨Nat.le_of_ble_eq_true rfl, Nat.le_of_ble_eq_true rfl⟩) ⟨cP_blind, cP_of hPc hKc hDc (kE_at hE0 hAL hS)⟩ rfl rfl hl.1 rfl (lv_room (Nat.le_of_ble_eq_true rfl)) dX2_setLimit_8 ⟨Nat.le_of_ble_eq_true rfl, Nat.le_of_ble_eq_true rfl⟩) ?_
    show W _ _ _ _ _ _ _ _ _ _ _ _ _ _ _ (F0 m 11 ls [.int (bI (decide (0 ≤ u) && decide (u ≤ 60)))])
    obtain ⟨b_7, hbv_8⟩ : ∃ z : Bool, z = (decide (0 ≤ u) && decide (u ≤ 60)) := ⟨_, rfl⟩
    refine c_top (show bI (decide (0 ≤ u) && decide (u ≤ 60)) = bI b_7 from by rw [hbv_8]) ?_
    refine lv_if_ne (tgt := 24) hx hb dX2_setLimit_11 (by decide) (fun c_9 => ?_) (fun c_9 => ?_)
    · have hp2 : inR u 0 60 := by cases b_7 with | true => simpa using hbv_8.symm | false => exact absurd rfl c_9
      obtain ⟨kv, hkv, hv⟩ := inR_n3 (n := 30) (by decide) hp1
      have hvn : v.toNatClampNeg = kv := by rw [hv, nI_clamp (by omega)]
      have hl : lv_has ls 4 [(0, .ref x), (1, .int (nI kv)), (2, .int u)] := (show v = nI kv from hv) ▸ hl
      refine lv_aload_n hx hb dX2_setLimit_24 rfl (lv_at hl 0 rfl) ?_
      refine va_get (D := D) (ci := 2) (v := .ref tr) (C := RX2) (T := TX2) (N := 9) hx hb hts hiX2 hown hK hP 0 rfl rfl 1 (by decide) (hts (.fieldLink RX2 16 "CraneReach" "trial" "LCraneReach$Rig;") (by decide +kernel)) (fun _ h9 => h9) rfl dX2_setLimit_25 ?_
      refine lv_aload_n hx hb dX2_setLimit_28 rfl (lv_at hl 0 rfl) ?_
      refine va_get (D := D) (ci := 2) (v := .ref rg) (C := RX2) (T := TX2) (N := 9) hx hb hts hiX2 hown hK hP 0 rfl rfl 0 (by decide) (hts (.fieldLink RX2 12 "CraneReach" "rig" "LCraneReach$Rig;") (by decide +kernel)) (fun _ h9 => h9) rfl dX2_setLimit_29 ?_
      have hPc := hP.sub (ws' := [(tr, .inr (1, [.ref t0, .ref t1, .int jp])), (t0, .inl (cI, 4, .inl jo)), (t1, .inl (cI, 28, .inl jl)), (rg, .inr (1, [.ref ro, .ref rl, .int pl])), (ro, .inl (cI, 4, .inl fo)), (rl, .inl (cI, 28, .inl (sh fl)))]) [4, 5, 6, 1, 2, 3] rfl
      have hDc : va_D (fun q : Nat => L0 ≤ q) [(tr, .inr (1, [.ref t0, .ref t1, .int jp])), (t0, .inl (cI, 4, .inl jo)), (t1, .inl (cI, 28, .inl jl)), (rg, .inr (1, [.ref ro, .ref rl, .int pl])), (ro, .inl (cI, 4, .inl fo)), (rl, .inl (cI, 28, .inl (sh fl)))] := (hD.sub (ws' := [(tr, .inr (1, [.ref t0, .ref t1, .int jp])), (t0, .inl (cI, 4, .inl jo)), (t1, .inl (cI, 28, .inl jl)), (rg, .inr (1, [.ref ro, .ref rl, .int pl])), (ro, .inl (cI, 4, .inl fo)), (rl, .inl (cI, 28, .inl (sh fl)))]) [4, 5, 6, 1, 2, 3] (by decide) rfl).weaken (fun _ z9 _ h9 => hAL _ h9)
      have hKc := hK.sub (tys' := [(cI, .int)]) [0] rfl
      refine c_callB (va_runV (As := [.ref rg]) (rest := []) ⟨hx, hb, hml, hown, hts⟩ (k_becomeLike l D L0 cI tr t0 t1 jp jo jl rg ro rl pl fo fl) (cwV 1 hts gX2_setLimit_X1_becomeLike rfl rfl rfl (by decide +kernel) ⟨Nat.le_of_ble_eq_true rfl, Nat.le_of_ble_eq_true rfl⟩) ⟨cP_blind, va_recv hKc hPc (ci := 1) (q0 := 0) rfl rfl, cP_of hPc hKc hDc (kE_at hE0 hAL hS)⟩ rfl rfl hl.1 rfl (lv_room (Nat.le_of_ble_eq_true rfl)) dX2_setLimit_32 ⟨Nat.le_of_ble_eq_true rfl, Nat.le_of_ble_eq_true rfl⟩) hS (fun z9 _ ⟨k9, e9, h9⟩ => (hD.sub (ws' := [(tr, .inr (1, [.ref t0, .ref t1, .int jp])), (t0, .inl (cI, 4, .inl jo)), (t1, .inl (cI, 28, .inl jl)), (rg, .inr (1, [.ref ro, .ref rl, .int pl])), (ro, .inl (cI, 4, .inl fo)), (rl, .inl (cI, 28, .inl (sh fl)))]) [4, 5, 6, 1, 2, 3] (by decide) rfl).2 k9 (z9, e9) h9) (fun z9 ⟨k9, e9, h9⟩ => (hD.sub (ws' := [(tr, .inr (1, [.ref t0, .ref t1, .int jp])), (t0, .inl (cI, 4, .inl jo)), (t1, .inl (cI, 28, .inl jl)), (rg, .inr (1, [.ref ro, .ref rl, .int pl])), (ro, .inl (cI, 4, .inl fo)), (rl, .inl (cI, 28, .inl (sh fl)))]) [4, 5, 6, 1, 2, 3] (by decide) rfl).2 k9 (z9, e9) h9) (fun H1 locs hB hz1 hk1 hS => ?_)
      obtain ⟨hP, hD⟩ := c_join (ws' := [(x, .inr (2, [.ref rg, .ref tr, .ref pn, .int (nI d), .int (nI r), .int ld, .int li, .int tl, .int mo])), (rg, .inr (1, [.ref ro, .ref rl, .int pl])), (ro, .inl (cI, 4, .inl fo)), (rl, .inl (cI, 28, .inl (sh fl))), (tr, .inr (1, [.ref t0, .ref t1, .int pl])), (t0, .inl (cI, 4, .inl fo)), (t1, .inl (cI, 28, .inl (sh fl)))]) (wr := [(x, .inr (2, [.ref rg, .ref tr, .ref pn, .int (nI d), .int (nI r), .int ld, .int li, .int tl, .int mo]))]) (w1 := [(tr, .inr (1, [.ref t0, .ref t1, .int pl])), (t0, .inl (cI, 4, .inl fo)), (t1, .inl (cI, 28, .inl (sh fl))), (rg, .inr (1, [.ref ro, .ref rl, .int pl])), (ro, .inl (cI, 4, .inl fo)), (rl, .inl (cI, 28, .inl (sh fl)))]) hP hD [4, 5, 6, 1, 2, 3] [0] [0, 4, 5, 6, 1, 2, 3] rfl rfl (by decide) (by decide) hk1 hB rfl rfl rfl (by decide)
      generalize H1 = H at hP hS ⊢
      show W _ _ _ _ _ _ _ _ _ _ _ _ _ _ _ (F0 m 35 ls [])
      refine lv_aload_n hx hb dX2_setLimit_35 rfl (lv_at hl 0 rfl) ?_
      refine va_get (D := D) (ci := 2) (v := .ref tr) (C := RX2) (T := TX2) (N := 9) hx hb hts hiX2 hown hK hP 0 rfl rfl 1 (by decide) (hts (.fieldLink RX2 16 "CraneReach" "trial" "LCraneReach$Rig;") (by decide +kernel)) (fun _ h9 => h9) rfl dX2_setLimit_36 ?_
      refine lv_iload_n hx hb dX2_setLimit_39 rfl (lv_at hl 1 rfl) ?_
      refine lv_iload_n hx hb dX2_setLimit_40 rfl (lv_at hl 2 rfl) ?_
      have hPc := hP.sub (ws' := [(tr, .inr (1, [.ref t0, .ref t1, .int pl])), (t0, .inl (cI, 4, .inl fo)), (t1, .inl (cI, 28, .inl (sh fl)))]) [4, 5, 6] rfl
      have hDc : va_D (fun q : Nat => L0 ≤ q) [(tr, .inr (1, [.ref t0, .ref t1, .int pl])), (t0, .inl (cI, 4, .inl fo)), (t1, .inl (cI, 28, .inl (sh fl)))] := (hD.sub (ws' := [(tr, .inr (1, [.ref t0, .ref t1, .int pl])), (t0, .inl (cI, 4, .inl fo)), (t1, .inl (cI, 28, .inl (sh fl)))]) [4, 5, 6] (by decide) rfl).weaken (fun _ z9 _ h9 => hAL _ h9)
      have hKc := hK.sub (tys' := [(cI, .int)]) [0] rfl
      refine c_callB (va_runV (As := [.int (nI kv), .int u]) (rest := []) ⟨hx, hb, hml, hown, hts⟩ (k_allow l D L0 cI tr t0 t1 pl fo (sh fl) kv u hkv) (cwV 2 hts gX2_setLimit_X1_allow rfl rfl rfl (by decide +kernel) ⟨Nat.le_of_ble_eq_true rfl, Nat.le_of_ble_eq_true rfl⟩) ⟨cP_blind, va_recv hKc hPc (ci := 1) (q0 := 0) rfl rfl, cP_of hPc hKc hDc (kE_at hE0 hAL hS)⟩ rfl rfl hl.1 rfl (lv_room (Nat.le_of_ble_eq_true rfl)) dX2_setLimit_41 ⟨Nat.le_of_ble_eq_true rfl, Nat.le_of_ble_eq_true rfl⟩) hS (fun z9 _ ⟨k9, e9, h9⟩ => (hD.sub (ws' := [(tr, .inr (1, [.ref t0, .ref t1, .int pl])), (t0, .inl (cI, 4, .inl fo)), (t1, .inl (cI, 28, .inl (sh fl)))]) [4, 5, 6] (by decide) rfl).2 k9 (z9, e9) h9) (fun z9 ⟨k9, e9, h9⟩ => (hD.sub (ws' := [(tr, .inr (1, [.ref t0, .ref t1, .int pl])), (t0, .inl (cI, 4, .inl fo)), (t1, .inl (cI, 28, .inl (sh fl)))]) [4, 5, 6] (by decide) rfl).2 k9 (z9, e9) h9) (fun H1 locs hB hz1 hk1 hS => ?_)
      obtain ⟨hP, hD⟩ := c_join (ws' := [(x, .inr (2, [.ref rg, .ref tr, .ref pn, .int (nI d), .int (nI r), .int ld, .int li, .int tl, .int mo])), (rg, .inr (1, [.ref ro, .ref rl, .int pl])), (ro, .inl (cI, 4, .inl fo)), (rl, .inl (cI, 28, .inl (sh fl))), (tr, .inr (1, [.ref t0, .ref t1, .int pl])), (t0, .inl (cI, 4, .inl fo)), (t1, .inl (cI, 28, .inl (upd (sh fl) (kv - 3) u)))]) (wr := [(x, .inr (2, [.ref rg, .ref tr, .ref pn, .int (nI d), .int (nI r), .int ld, .int li, .int tl, .int mo])), (rg, .inr (1, [.ref ro, .ref rl, .int pl])), (ro, .inl (cI, 4, .inl fo)), (rl, .inl (cI, 28, .inl (sh fl)))]) (w1 := [(tr, .inr (1, [.ref t0, .ref t1, .int pl])), (t0, .inl (cI, 4, .inl fo)), (t1, .inl (cI, 28, .inl (upd (sh fl) (kv - 3) u)))]) hP hD [4, 5, 6] [0, 1, 2, 3] [0, 1, 2, 3, 4, 5, 6] rfl rfl (by decide) (by decide) hk1 hB rfl rfl rfl (by decide)
      generalize H1 = H at hP hS ⊢
      show W _ _ _ _ _ _ _ _ _ _ _ _ _ _ _ (F0 m 44 ls [])
      rw [upd_sh hkv.1] at hP hD
      have hP : va_P D vwCl [(x, .inr (2, [.ref rg, .ref tr, .ref pn, .int (nI d), .int (nI r), .int ld, .int li, .int tl, .int mo])), (rg, .inr (1, [.ref ro, .ref rl, .int pl])), (ro, .inl (cI, 4, .inl fo)), (rl, .inl (cI, 28, .inl (sh fl))), (tr, .inr (1, [.ref t0, .ref t1, .int pl])), (t0, .inl (cI, 4, .inl fo)), (t1, .inl (cI, 28, .inl (sh (upd fl kv u))))] H := hP
      have hD : va_D A [(x, .inr (2, [.ref rg, .ref tr, .ref pn, .int (nI d), .int (nI r), .int ld, .int li, .int tl, .int mo])), (rg, .inr (1, [.ref ro, .ref rl, .int pl])), (ro, .inl (cI, 4, .inl fo)), (rl, .inl (cI, 28, .inl (sh fl))), (tr, .inr (1, [.ref t0, .ref t1, .int pl])), (t0, .inl (cI, 4, .inl fo)), (t1, .inl (cI, 28, .inl (sh (upd fl kv u))))] := hD
      refine lv_aload_n hx hb dX2_setLimit_44 rfl (lv_at hl 0 rfl) ?_
      refine lv_aload_n hx hb dX2_setLimit_45 rfl (lv_at hl 0 rfl) ?_
      refine va_get (D := D) (ci := 2) (v := .ref tr) (C := RX2) (T := TX2) (N := 9) hx hb hts hiX2 hown hK hP 0 rfl rfl 1 (by decide) (hts (.fieldLink RX2 16 "CraneReach" "trial" "LCraneReach$Rig;") (by decide +kernel)) (fun _ h9 => h9) rfl dX2_setLimit_46 ?_
      refine lv_aload_n hx hb dX2_setLimit_49 rfl (lv_at hl 0 rfl) ?_
      refine va_get (D := D) (ci := 2) (v := .int ld) (C := RX2) (T := TX2) (N := 9) hx hb hts hiX2 hown hK hP 0 rfl rfl 5 (by decide) (hts (.fieldLink RX2 48 "CraneReach" "load" "I") (by decide +kernel)) (fun _ h9 => h9) rfl dX2_setLimit_50 ?_
      have hPc := hP.sub (ws' := [(x, .inr (2, [.ref rg, .ref tr, .ref pn, .int (nI d), .int (nI r), .int ld, .int li, .int tl, .int mo])), (tr, .inr (1, [.ref t0, .ref t1, .int pl])), (t0, .inl (cI, 4, .inl fo)), (t1, .inl (cI, 28, .inl (sh (upd fl kv u))))]) [0, 4, 5, 6] rfl
      have hDc : va_D (fun q : Nat => L0 ≤ q) [(x, .inr (2, [.ref rg, .ref tr, .ref pn, .int (nI d), .int (nI r), .int ld, .int li, .int tl, .int mo])), (tr, .inr (1, [.ref t0, .ref t1, .int pl])), (t0, .inl (cI, 4, .inl fo)), (t1, .inl (cI, 28, .inl (sh (upd fl kv u))))] := (hD.sub (ws' := [(x, .inr (2, [.ref rg, .ref tr, .ref pn, .int (nI d), .int (nI r), .int ld, .int li, .int tl, .int mo])), (tr, .inr (1, [.ref t0, .ref t1, .int pl])), (t0, .inl (cI, 4, .inl fo)), (t1, .inl (cI, 28, .inl (sh (upd fl kv u))))]) [0, 4, 5, 6] (by decide) rfl).weaken (fun _ z9 _ h9 => hAL _ h9)
      have hKc := hK.sub (tys' := [(cI, .int)]) [0] rfl
      refine c_callT (vx_runV (As := [.ref tr, .int ld]) (rest := []) ⟨hx, hb, hml, hown, hts⟩ (k_requireSafe l hfl D L0 cI x rg tr pn tr t0 t1 d r ld li tl mo pl fo (upd fl kv u) ld hd hr) (cwV 2 hts gX2_setLimit_X2_requireSafe rfl rfl rfl (by decide +kernel) ⟨Nat.le_of_ble_eq_true rfl, Nat.le_of_ble_eq_true rfl⟩) ⟨cP_blind, va_recv hKc hPc (ci := 2) (q0 := 0) rfl rfl, cP_of hPc hKc hDc (kE_at hE0 hAL hS)⟩ rfl rfl hl.1 rfl (lv_room (Nat.le_of_ble_eq_true rfl)) dX2_setLimit_53 ⟨Nat.le_of_ble_eq_true rfl, Nat.le_of_ble_eq_true rfl⟩) hS (fun E ce q9 H1 hE hz1 hk1 hS hce hcv hcl => ?_) (fun hsf => ?_)
      · obtain ⟨rfl, hE⟩ := hE
        have hP := c_PX hP hk1
        exact vx_out (fun z hz => (hxt z hz).elim) hlocks hce hcv hcl (fun t ht hvm => ⟨⟨Or.inr ⟨rfl, by rw [kSL, if_pos ⟨hp1, hp2⟩, hvn, if_neg hE]⟩, by rw [ht]; exact ⟨_, _, _, hP⟩⟩, hS.F ht⟩) (fun z hz => hS.2.2 z hz) (Nat.le_of_ble_eq_true rfl) (Nat.le_of_ble_eq_true rfl)
      · show W _ _ _ _ _ _ _ _ _ _ _ _ _ _ _ (F0 m 56 ls [])
        refine lv_aload_n hx hb dX2_setLimit_56 rfl (lv_at hl 0 rfl) ?_
        refine va_get (D := D) (ci := 2) (v := .ref rg) (C := RX2) (T := TX2) (N := 9) hx hb hts hiX2 hown hK hP 0 rfl rfl 0 (by decide) (hts (.fieldLink RX2 12 "CraneReach" "rig" "LCraneReach$Rig;") (by decide +kernel)) (fun _ h9 => h9) rfl dX2_setLimit_57 ?_
        refine lv_iload_n hx hb dX2_setLimit_60 rfl (lv_at hl 1 rfl) ?_
        have hPc := hP.sub (ws' := [(rg, .inr (1, [.ref ro, .ref rl, .int pl])), (ro, .inl (cI, 4, .inl fo)), (rl, .inl (cI, 28, .inl (sh fl)))]) [1, 2, 3] rfl
        have hDc : va_D (fun q : Nat => L0 ≤ q) [(rg, .inr (1, [.ref ro, .ref rl, .int pl])), (ro, .inl (cI, 4, .inl fo)), (rl, .inl (cI, 28, .inl (sh fl)))] := (hD.sub (ws' := [(rg, .inr (1, [.ref ro, .ref rl, .int pl])), (ro, .inl (cI, 4, .inl fo)), (rl, .inl (cI, 28, .inl (sh fl)))]) [1, 2, 3] (by decide) rfl).weaken (fun _ z9 _ h9 => hAL _ h9)
        have hKc := hK.sub (tys' := [(cI, .int)]) [0] rfl
        refine c_callR (va_runV (As := [.int (nI kv)]) (rest := []) ⟨hx, hb, hml, hown, hts⟩ (k_allowed l D L0 cI rg ro rl pl fo (sh fl) kv hkv) (cwV 1 hts gX2_setLimit_X1_allowed rfl rfl rfl (by decide +kernel) ⟨Nat.le_of_ble_eq_true rfl, Nat.le_of_ble_eq_true rfl⟩) ⟨cP_blind, va_recv hKc hPc (ci := 1) (q0 := 0) rfl rfl, cP_of hPc hKc hDc (kE_at hE0 hAL hS)⟩ rfl rfl hl.1 rfl (lv_room (Nat.le_of_ble_eq_true rfl)) dX2_setLimit_61 ⟨Nat.le_of_ble_eq_true rfl, Nat.le_of_ble_eq_true rfl⟩) ?_
        show W _ _ _ _ _ _ _ _ _ _ _ _ _ _ _ (F0 m 64 ls [.int (sh fl (kv - 3))])
        refine c_top (show sh fl (kv - 3) = fl kv from sh_at hkv.1) ?_
        refine lv_istore_n (lv' := [(3, .int (fl kv)), (0, .ref x), (1, .int (nI kv)), (2, .int u)]) hx hb dX2_setLimit_64 rfl hl (by decide) rfl (fun ls hl => ?_)
        refine lv_aload_n hx hb dX2_setLimit_65 rfl (lv_at hl 1 rfl) ?_
        refine va_get (D := D) (ci := 2) (v := .ref rg) (C := RX2) (T := TX2) (N := 9) hx hb hts hiX2 hown hK hP 0 rfl rfl 0 (by decide) (hts (.fieldLink RX2 12 "CraneReach" "rig" "LCraneReach$Rig;") (by decide +kernel)) (fun _ h9 => h9) rfl dX2_setLimit_66 ?_
        refine lv_iload_n hx hb dX2_setLimit_69 rfl (lv_at hl 2 rfl) ?_
        refine lv_iload_n hx hb dX2_setLimit_70 rfl (lv_at hl 3 rfl) ?_
        have hPc := hP.sub (ws' := [(rg, .inr (1, [.ref ro, .ref rl, .int pl])), (ro, .inl (cI, 4, .inl fo)), (rl, .inl (cI, 28, .inl (sh fl)))]) [1, 2, 3] rfl
        have hDc : va_D (fun q : Nat => L0 ≤ q) [(rg, .inr (1, [.ref ro, .ref rl, .int pl])), (ro, .inl (cI, 4, .inl fo)), (rl, .inl (cI, 28, .inl (sh fl)))] := (hD.sub (ws' := [(rg, .inr (1, [.ref ro, .ref rl, .int pl])), (ro, .inl (cI, 4, .inl fo)), (rl, .inl (cI, 28, .inl (sh fl)))]) [1, 2, 3] (by decide) rfl).weaken (fun _ z9 _ h9 => hAL _ h9)
        have hKc := hK.sub (tys' := [(cI, .int)]) [0] rfl
        refine c_callB (va_runV (As := [.int (nI kv), .int u]) (rest := []) ⟨hx, hb, hml, hown, hts⟩ (k_allow l D L0 cI rg ro rl pl fo (sh fl) kv u hkv) (cwV 2 hts gX2_setLimit_X1_allow rfl rfl rfl (by decide +kernel) ⟨Nat.le_of_ble_eq_true rfl, Nat.le_of_ble_eq_true rfl⟩) ⟨cP_blind, va_recv hKc hPc (ci := 1) (q0 := 0) rfl rfl, cP_of hPc hKc hDc (kE_at hE0 hAL hS)⟩ rfl rfl hl.1 rfl (lv_room (Nat.le_of_ble_eq_true rfl)) dX2_setLimit_71 ⟨Nat.le_of_ble_eq_true rfl, Nat.le_of_ble_eq_true rfl⟩) hS (fun z9 _ ⟨k9, e9, h9⟩ => (hD.sub (ws' := [(rg, .inr (1, [.ref ro, .ref rl, .int pl])), (ro, .inl (cI, 4, .inl fo)), (rl, .inl (cI, 28, .inl (sh fl)))]) [1, 2, 3] (by decide) rfl).2 k9 (z9, e9) h9) (fun z9 ⟨k9, e9, h9⟩ => (hD.sub (ws' := [(rg, .inr (1, [.ref ro, .ref rl, .int pl])), (ro, .inl (cI, 4, .inl fo)), (rl, .inl (cI, 28, .inl (sh fl)))]) [1, 2, 3] (by decide) rfl).2 k9 (z9, e9) h9) (fun H1 locs hB hz1 hk1 hS => ?_)
        obtain ⟨hP, hD⟩ := c_join (ws' := [(x, .inr (2, [.ref rg, .ref tr, .ref pn, .int (nI d), .int (nI r), .int ld, .int li, .int tl, .int mo])), (rg, .inr (1, [.ref ro, .ref rl, .int pl])), (ro, .inl (cI, 4, .inl fo)), (rl, .inl (cI, 28, .inl (upd (sh fl) (kv - 3) u))), (tr, .inr (1, [.ref t0, .ref t1, .int pl])), (t0, .inl (cI, 4, .inl fo)), (t1, .inl (cI, 28, .inl (sh (upd fl kv u))))]) (wr := [(x, .inr (2, [.ref rg, .ref tr, .ref pn, .int (nI d), .int (nI r), .int ld, .int li, .int tl, .int mo])), (tr, .inr (1, [.ref t0, .ref t1, .int pl])), (t0, .inl (cI, 4, .inl fo)), (t1, .inl (cI, 28, .inl (sh (upd fl kv u))))]) (w1 := [(rg, .inr (1, [.ref ro, .ref rl, .int pl])), (ro, .inl (cI, 4, .inl fo)), (rl, .inl (cI, 28, .inl (upd (sh fl) (kv - 3) u)))]) hP hD [1, 2, 3] [0, 4, 5, 6] [0, 4, 5, 6, 1, 2, 3] rfl rfl (by decide) (by decide) hk1 hB rfl rfl rfl (by decide)
        generalize H1 = H at hP hS ⊢
        show W _ _ _ _ _ _ _ _ _ _ _ _ _ _ _ (F0 m 74 ls [])
        rw [upd_sh hkv.1, ← hvn] at hP
        refine lv_iload_n hx hb dX2_setLimit_74 rfl (lv_at hl 0 rfl) ?_
        refine vx_ret ?_
        refine W.widen (k := 2) (n := 12) (Nat.le_of_ble_eq_true rfl) (Nat.le_of_ble_eq_true rfl) ?_
        exact W.iret (v := (fl kv)) hx hb hRt (fun t ht hW => ⟨⟨by rw [hvn], by rw [ht]; exact ⟨by rw [kSL, if_pos ⟨hp1, hp2⟩, hvn, if_pos hsf], _, _, _, hP⟩⟩, hS.F ht⟩) hS.2.2 dX2_setLimit_75
    · have hn : ¬ inR u 0 60 := fun hp => absurd c_9 (by rw [hbv_8]; simp [hp.1, hp.2, bI])
      exact c_throw (cls := xIAE) (text := "limit must be 0 to 60") hx hb hfl hown (Or.inl rfl) (hts (.classLink RX2 34 xIAE) (by decide +kernel)) (hts (.initialized xIAE) (by decide +kernel)) hE0 hAL (by decide) (fun z hz => hts z (hin38 z hz)) (by decide +kernel) (by decide +kernel) hS hl.1 hml dX2_setLimit_14 dX2_setLimit_17 dX2_setLimit_18 dX2_setLimit_20 dX2_setLimit_23 hxt (Nat.le_of_ble_eq_true rfl) (Nat.le_of_ble_eq_true rfl) (Nat.le_of_ble_eq_true rfl) (Nat.le_of_ble_eq_true rfl) hlocks (Or.inl ⟨rfl, by rw [kSL, if_neg (fun z => hn z.2)]⟩) (fun H1 hz hq => ⟨_, _, _, c_PX hP hq⟩) (fun q h => h) (fun q h => h) (Nat.le_of_ble_eq_true rfl) (Nat.le_of_ble_eq_true rfl)
set_option maxHeartbeats 4000000 in
set_option maxRecDepth 100000 in
/-- lift(load) -/
theorem k_lift (l : Launch) (hfl : l.stackTraces = false) (D : va_G) (L0 : Nat) (cI : ClassId) (x rg tr pn ro rl d r : Nat) (ld li tl mo pl : Int32) (fo fl : Nat → Int32) (v : Int32) (hd : d < 8) (hr : 3 ≤ r ∧ r ≤ 30) : vx_Met l yX2_lift wsX2_lift ({ frames := 7, cells := 2, slots := 12, locals := 108 }) (cP L0 D [(cI, .int)] [(x, .inr (2, [.ref rg, .ref tr, .ref pn, .int (nI d), .int (nI r), .int ld, .int li, .int tl, .int mo])), (rg, .inr (1, [.ref ro, .ref rl, .int pl])), (ro, .inl (cI, 4, .inl fo)), (rl, .inl (cI, 28, .inl (sh fl)))] [.ref x, .int v]) (cB (some (.int (li + 1))) (fun H => kLi ld (fun q => safS fo fl pl q d r) v = 0 ∧ va_P D vwCl [(x, .inr (2, [.ref rg, .ref tr, .ref pn, .int (nI d), .int (nI r), .int v, .int (li + 1), .int (tl + v), .int mo])), (rg, .inr (1, [.ref ro, .ref rl, .int pl])), (ro, .inl (cI, 4, .inl fo)), (rl, .inl (cI, 28, .inl (sh fl)))] H) (cA [(x, .inr (2, [.ref rg, .ref tr, .ref pn, .int (nI d), .int (nI r), .int ld, .int li, .int tl, .int mo])), (rg, .inr (1, [.ref ro, .ref rl, .int pl])), (ro, .inl (cI, 4, .inl fo)), (rl, .inl (cI, 28, .inl (sh fl)))])) (cX (fun E => (E = xIAE ∧ kLi ld (fun q => safS fo fl pl q d r) v = 1) ∨ (E = xISE ∧ kLi ld (fun q => safS fo fl pl q d r) v = 2)) (fun H => va_P D vwCl [(x, .inr (2, [.ref rg, .ref tr, .ref pn, .int (nI d), .int (nI r), .int ld, .int li, .int tl, .int mo])), (rg, .inr (1, [.ref ro, .ref rl, .int pl])), (ro, .inl (cI, 4, .inl fo)), (rl, .inl (cI, 28, .inl (sh fl)))] H) (cA [(x, .inr (2, [.ref rg, .ref tr, .ref pn, .int (nI d), .int (nI r), .int ld, .int li, .int tl, .int mo])), (rg, .inr (1, [.ref ro, .ref rl, .int pl])), (ro, .inl (cI, 4, .inl fo)), (rl, .inl (cI, 28, .inl (sh fl)))])) 2 12 (cA [(x, .inr (2, [.ref rg, .ref tr, .ref pn, .int (nI d), .int (nI r), .int ld, .int li, .int tl, .int mo])), (rg, .inr (1, [.ref ro, .ref rl, .int pl])), (ro, .inl (cI, 4, .inl fo)), (rl, .inl (cI, 28, .inl (sh fl)))]) := by
  refine vx_ofW (cc := cX2_lift) (maxL := 2) (ret := (some .int)) (by decide) rfl ?_
  intro p e s m args below meth c s₁ B hml hxt hv
  obtain ⟨rfl, hP, hK, hD0, hE0⟩ := hv
  have hx := B.exec
  have hb := B.bytes
  have hRt := B.returns
  have hts := atoms_spec (ws := wsX2_lift) B.pre
  have hown : s.vm.findClass RX2 = some m.cls := findClass_of_methodNamed B.named
  have hlocks := B.notSynchronized
  have hAL : ∀ z9 : Nat, cA [(x, .inr (2, [.ref rg, .ref tr, .ref pn, .int (nI d), .int (nI r), .int ld, .int li, .int tl, .int mo])), (rg, .inr (1, [.ref ro, .ref rl, .int pl])), (ro, .inl (cI, 4, .inl fo)), (rl, .inl (cI, 28, .inl (sh fl)))] z9 → L0 ≤ z9 := fun z9 ⟨k9, e9, h9⟩ => hD0.2 k9 (z9, e9) h9
  have hD : va_D (cA [(x, .inr (2, [.ref rg, .ref tr, .ref pn, .int (nI d), .int (nI r), .int ld, .int li, .int tl, .int mo])), (rg, .inr (1, [.ref ro, .ref rl, .int pl])), (ro, .inl (cI, 4, .inl fo)), (rl, .inl (cI, 28, .inl (sh fl)))]) [(x, .inr (2, [.ref rg, .ref tr, .ref pn, .int (nI d), .int (nI r), .int ld, .int li, .int tl, .int mo])), (rg, .inr (1, [.ref ro, .ref rl, .int pl])), (ro, .inl (cI, 4, .inl fo)), (rl, .inl (cI, 28, .inl (sh fl)))] := ⟨hD0.1, fun k9 z9 h9 => cA_of h9⟩
  generalize hAe : cA [(x, .inr (2, [.ref rg, .ref tr, .ref pn, .int (nI d), .int (nI r), .int ld, .int li, .int tl, .int mo])), (rg, .inr (1, [.ref ro, .ref rl, .int pl])), (ro, .inl (cI, 4, .inl fo)), (rl, .inl (cI, 28, .inl (sh fl)))] = A at hD hAL ⊢
  have hS : va_S A s.heap s.heap [] := va_S.rf
  have hiX2 : ∀ w ∈ u_ws RX2 TX2 9, w ∈ wsX2_lift := by decide +kernel
  have hl := lv_entry ([.ref x, .int v]) (n := 2) (Nat.le_of_ble_eq_true rfl)
  rw [lg_entry_eq]
  generalize (lg_sl ([.ref x, .int v]) ++ List.replicate (2 - (lg_sl ([.ref x, .int v])).length) Slot.unset).toArray = ls at hl ⊢
  have hl : lv_has ls 2 [(0, .ref x), (1, .int v)] := hl
  have hin38 : ∀ z ∈ (vx_atS RX2 38 xIAE kSup).filter goodWord, z ∈ wsX2_lift := by decide +kernel
  refine lv_iload_n hx hb dX2_lift_0 rfl (lv_at hl 1 rfl) ?_
  refine lv_iconst (v := 1) hx hb dX2_lift_1 (by decide) ?_
  refine lv_bipush (v := 60) hx hb dX2_lift_2 (by decide) ?_
  have hPc := hP.sub (ws' := []) [] rfl
  have hDc : va_D (fun q : Nat => L0 ≤ q) [] := (hD.sub (ws' := []) [] (by decide) rfl).weaken (fun _ z9 _ h9 => hAL _ h9)
  have hKc := hK.sub (tys' := []) [] rfl
  refine c_callR (va_runS (As := [.int v, .int 1, .int 60]) (rest := []) ⟨hx, hb, hml, hown, hts⟩ (k_isWithin l D L0 v 1 60) (va_cwS 3 hts gX2_lift_X2_isWithin rfl rfl rfl (by decide +kernel) ⟨Nat.le_of_ble_eq_true rfl, Nat.le_of_ble_eq_true rfl⟩) ⟨cP_blind, cP_of hPc hKc hDc (kE_at hE0 hAL hS)⟩ rfl rfl hl.1 rfl (lv_room (Nat.le_of_ble_eq_true rfl)) dX2_lift_4 ⟨Nat.le_of_ble_eq_true rfl, Nat.le_of_ble_eq_true rfl⟩) ?_
  show W _ _ _ _ _ _ _ _ _ _ _ _ _ _ _ (F0 m 7 ls [.int (bI (decide (1 ≤ v) && decide (v ≤ 60)))])
  obtain ⟨b_10, hbv_11⟩ : ∃ z : Bool, z = (decide (1 ≤ v) && decide (v ≤ 60)) := ⟨_, rfl⟩
  refine c_top (show bI (decide (1 ≤ v) && decide (v ≤ 60)) = bI b_10 from by rw [hbv_11]) ?_
  refine lv_if_ne (tgt := 20) hx hb dX2_lift_7 (by decide) (fun c_12 => ?_) (fun c_12 => ?_)
  · have hp : inR v 1 60 := by cases b_10 with | true => simpa using hbv_11.symm | false => exact absurd rfl c_12
    refine lv_aload_n hx hb dX2_lift_20 rfl (lv_at hl 0 rfl) ?_
    have hPc := hP.sub (ws' := [(x, .inr (2, [.ref rg, .ref tr, .ref pn, .int (nI d), .int (nI r), .int ld, .int li, .int tl, .int mo]))]) [0] rfl
    have hDc : va_D (fun q : Nat => L0 ≤ q) [(x, .inr (2, [.ref rg, .ref tr, .ref pn, .int (nI d), .int (nI r), .int ld, .int li, .int tl, .int mo]))] := (hD.sub (ws' := [(x, .inr (2, [.ref rg, .ref tr, .ref pn, .int (nI d), .int (nI r), .int ld, .int li, .int tl, .int mo]))]) [0] (by decide) rfl).weaken (fun _ z9 _ h9 => hAL _ h9)
    have hKc := hK.sub (tys' := []) [] rfl
    refine c_callT (vx_runV (As := []) (rest := []) ⟨hx, hb, hml, hown, hts⟩ (k_requireNoLoad l hfl D L0 x rg tr pn d r ld li tl mo) (cwV 0 hts gX2_lift_X2_requireNoLoad rfl rfl rfl (by decide +kernel) ⟨Nat.le_of_ble_eq_true rfl, Nat.le_of_ble_eq_true rfl⟩) ⟨cP_blind, va_recv hKc hPc (ci := 2) (q0 := 0) rfl rfl, cP_of hPc hKc hDc (kE_at hE0 hAL hS)⟩ rfl rfl hl.1 rfl (lv_room (Nat.le_of_ble_eq_true rfl)) dX2_lift_21 ⟨Nat.le_of_ble_eq_true rfl, Nat.le_of_ble_eq_true rfl⟩) hS (fun E ce q9 H1 hE hz1 hk1 hS hce hcv hcl => ?_) (fun hp3 => ?_)
    · obtain ⟨rfl, hE⟩ := hE
      have hP := c_PX hP hk1
      exact vx_out (fun z hz => (hxt z hz).elim) hlocks hce hcv hcl (fun t ht hvm => ⟨⟨Or.inr ⟨rfl, by rw [kLi, if_pos hp, if_neg (fun z => hE z.1)]⟩, by rw [ht]; exact hP⟩, hS.F ht⟩) (fun z hz => hS.2.2 z hz) (Nat.le_of_ble_eq_true rfl) (Nat.le_of_ble_eq_true rfl)
    · show W _ _ _ _ _ _ _ _ _ _ _ _ _ _ _ (F0 m 24 ls [])
      refine lv_aload_n hx hb dX2_lift_24 rfl (lv_at hl 0 rfl) ?_
      refine lv_aload_n hx hb dX2_lift_25 rfl (lv_at hl 0 rfl) ?_
      refine va_get (D := D) (ci := 2) (v := .ref rg) (C := RX2) (T := TX2) (N := 9) hx hb hts hiX2 hown hK hP 0 rfl rfl 0 (by decide) (hts (.fieldLink RX2 12 "CraneReach" "rig" "LCraneReach$Rig;") (by decide +kernel)) (fun _ h9 => h9) rfl dX2_lift_26 ?_
      refine lv_iload_n hx hb dX2_lift_29 rfl (lv_at hl 1 rfl) ?_
      have hPc := hP.sub (ws' := [(x, .inr (2, [.ref rg, .ref tr, .ref pn, .int (nI d), .int (nI r), .int ld, .int li, .int tl, .int mo])), (rg, .inr (1, [.ref ro, .ref rl, .int pl])), (ro, .inl (cI, 4, .inl fo)), (rl, .inl (cI, 28, .inl (sh fl)))]) [0, 1, 2, 3] rfl
      have hDc : va_D (fun q : Nat => L0 ≤ q) [(x, .inr (2, [.ref rg, .ref tr, .ref pn, .int (nI d), .int (nI r), .int ld, .int li, .int tl, .int mo])), (rg, .inr (1, [.ref ro, .ref rl, .int pl])), (ro, .inl (cI, 4, .inl fo)), (rl, .inl (cI, 28, .inl (sh fl)))] := (hD.sub (ws' := [(x, .inr (2, [.ref rg, .ref tr, .ref pn, .int (nI d), .int (nI r), .int ld, .int li, .int tl, .int mo])), (rg, .inr (1, [.ref ro, .ref rl, .int pl])), (ro, .inl (cI, 4, .inl fo)), (rl, .inl (cI, 28, .inl (sh fl)))]) [0, 1, 2, 3] (by decide) rfl).weaken (fun _ z9 _ h9 => hAL _ h9)
      have hKc := hK.sub (tys' := [(cI, .int)]) [0] rfl
      refine c_callT (vx_runV (As := [.ref rg, .int v]) (rest := []) ⟨hx, hb, hml, hown, hts⟩ (k_requireSafe l hfl D L0 cI x rg tr pn rg ro rl d r ld li tl mo pl fo fl v hd hr) (cwV 2 hts gX2_lift_X2_requireSafe rfl rfl rfl (by decide +kernel) ⟨Nat.le_of_ble_eq_true rfl, Nat.le_of_ble_eq_true rfl⟩) ⟨cP_blind, va_recv hKc hPc (ci := 2) (q0 := 0) rfl rfl, cP_of hPc hKc hDc (kE_at hE0 hAL hS)⟩ rfl rfl hl.1 rfl (lv_room (Nat.le_of_ble_eq_true rfl)) dX2_lift_30 ⟨Nat.le_of_ble_eq_true rfl, Nat.le_of_ble_eq_true rfl⟩) hS (fun E ce q9 H1 hE hz1 hk1 hS hce hcv hcl => ?_) (fun hsf => ?_)
      · obtain ⟨rfl, hE⟩ := hE
        have hP := c_PX hP hk1
        exact vx_out (fun z hz => (hxt z hz).elim) hlocks hce hcv hcl (fun t ht hvm => ⟨⟨Or.inr ⟨rfl, by rw [kLi, if_pos hp, if_neg (fun z => hE z.2)]⟩, by rw [ht]; exact hP⟩, hS.F ht⟩) (fun z hz => hS.2.2 z hz) (Nat.le_of_ble_eq_true rfl) (Nat.le_of_ble_eq_true rfl)
      · show W _ _ _ _ _ _ _ _ _ _ _ _ _ _ _ (F0 m 33 ls [])
        refine lv_aload_n hx hb dX2_lift_33 rfl (lv_at hl 0 rfl) ?_
        refine lv_iload_n hx hb dX2_lift_34 rfl (lv_at hl 1 rfl) ?_
        refine va_put (D := D) (ci := 2) (v := .int v) (ty := .int) (C := RX2) (T := TX2) (N := 9) hx hb hts hiX2 tyX2 tyX2_ok nmX2 hown hK hP hD hS 0 rfl rfl 5 (by decide) (hts (.fieldLink RX2 48 "CraneReach" "load" "I") (by decide +kernel)) (fun _ h9 => h9) rfl (by decide +kernel) rfl rfl (Nat.le_of_ble_eq_true rfl) dX2_lift_35 (fun H locs hP hD hS => ?_)
        have hP : va_P D vwCl [(x, .inr (2, [.ref rg, .ref tr, .ref pn, .int (nI d), .int (nI r), .int v, .int li, .int tl, .int mo])), (rg, .inr (1, [.ref ro, .ref rl, .int pl])), (ro, .inl (cI, 4, .inl fo)), (rl, .inl (cI, 28, .inl (sh fl)))] H := hP
        have hD : va_D A [(x, .inr (2, [.ref rg, .ref tr, .ref pn, .int (nI d), .int (nI r), .int v, .int li, .int tl, .int mo])), (rg, .inr (1, [.ref ro, .ref rl, .int pl])), (ro, .inl (cI, 4, .inl fo)), (rl, .inl (cI, 28, .inl (sh fl)))] := hD
        refine lv_aload_n hx hb dX2_lift_38 rfl (lv_at hl 0 rfl) ?_
        refine lv_dup hx hb dX2_lift_39 rfl ?_
        refine va_get (D := D) (ci := 2) (v := .int li) (C := RX2) (T := TX2) (N := 9) hx hb hts hiX2 hown hK hP 0 rfl rfl 6 (by decide) (hts (.fieldLink RX2 85 "CraneReach" "lifts" "I") (by decide +kernel)) (fun _ h9 => h9) rfl dX2_lift_40 ?_
        refine lv_iconst (v := 1) hx hb dX2_lift_43 (by decide) ?_
        refine lv_iadd hx hb dX2_lift_44 ?_
        refine va_put (D := D) (ci := 2) (v := .int (li + 1)) (ty := .int) (C := RX2) (T := TX2) (N := 9) hx hb hts hiX2 tyX2 tyX2_ok nmX2 hown hK hP hD hS 0 rfl rfl 6 (by decide) (hts (.fieldLink RX2 85 "CraneReach" "lifts" "I") (by decide +kernel)) (fun _ h9 => h9) rfl (by decide +kernel) rfl rfl (Nat.le_of_ble_eq_true rfl) dX2_lift_45 (fun H locs hP hD hS => ?_)
        have hP : va_P D vwCl [(x, .inr (2, [.ref rg, .ref tr, .ref pn, .int (nI d), .int (nI r), .int v, .int (li + 1), .int tl, .int mo])), (rg, .inr (1, [.ref ro, .ref rl, .int pl])), (ro, .inl (cI, 4, .inl fo)), (rl, .inl (cI, 28, .inl (sh fl)))] H := hP
        have hD : va_D A [(x, .inr (2, [.ref rg, .ref tr, .ref pn, .int (nI d), .int (nI r), .int v, .int (li + 1), .int tl, .int mo])), (rg, .inr (1, [.ref ro, .ref rl, .int pl])), (ro, .inl (cI, 4, .inl fo)), (rl, .inl (cI, 28, .inl (sh fl)))] := hD
        refine lv_aload_n hx hb dX2_lift_48 rfl (lv_at hl 0 rfl) ?_
        refine lv_dup hx hb dX2_lift_49 rfl ?_
        refine va_get (D := D) (ci := 2) (v := .int tl) (C := RX2) (T := TX2) (N := 9) hx hb hts hiX2 hown hK hP 0 rfl rfl 7 (by decide) (hts (.fieldLink RX2 88 "CraneReach" "tonsLifted" "I") (by decide +kernel)) (fun _ h9 => h9) rfl dX2_lift_50 ?_
        refine lv_iload_n hx hb dX2_lift_53 rfl (lv_at hl 1 rfl) ?_
        refine lv_iadd hx hb dX2_lift_54 ?_
        refine va_put (D := D) (ci := 2) (v := .int (tl + v)) (ty := .int) (C := RX2) (T := TX2) (N := 9) hx hb hts hiX2 tyX2 tyX2_ok nmX2 hown hK hP hD hS 0 rfl rfl 7 (by decide) (hts (.fieldLink RX2 88 "CraneReach" "tonsLifted" "I") (by decide +kernel)) (fun _ h9 => h9) rfl (by decide +kernel) rfl rfl (Nat.le_of_ble_eq_true rfl) dX2_lift_55 (fun H locs hP hD hS => ?_)
        have hP : va_P D vwCl [(x, .inr (2, [.ref rg, .ref tr, .ref pn, .int (nI d), .int (nI r), .int v, .int (li + 1), .int (tl + v), .int mo])), (rg, .inr (1, [.ref ro, .ref rl, .int pl])), (ro, .inl (cI, 4, .inl fo)), (rl, .inl (cI, 28, .inl (sh fl)))] H := hP
        have hD : va_D A [(x, .inr (2, [.ref rg, .ref tr, .ref pn, .int (nI d), .int (nI r), .int v, .int (li + 1), .int (tl + v), .int mo])), (rg, .inr (1, [.ref ro, .ref rl, .int pl])), (ro, .inl (cI, 4, .inl fo)), (rl, .inl (cI, 28, .inl (sh fl)))] := hD
        refine lv_aload_n hx hb dX2_lift_58 rfl (lv_at hl 0 rfl) ?_
        refine va_get (D := D) (ci := 2) (v := .int (li + 1)) (C := RX2) (T := TX2) (N := 9) hx hb hts hiX2 hown hK hP 0 rfl rfl 6 (by decide) (hts (.fieldLink RX2 85 "CraneReach" "lifts" "I") (by decide +kernel)) (fun _ h9 => h9) rfl dX2_lift_59 ?_
        refine vx_ret ?_
        refine W.widen (k := 2) (n := 12) (Nat.le_of_ble_eq_true rfl) (Nat.le_of_ble_eq_true rfl) ?_
        exact W.iret (v := (li + 1)) hx hb hRt (fun t ht hW => ⟨⟨rfl, by rw [ht]; exact ⟨by rw [kLi, if_pos hp, if_pos ⟨hp3, hsf⟩], hP⟩⟩, hS.F ht⟩) hS.2.2 dX2_lift_62
  · have hn : ¬ inR v 1 60 := fun hp => absurd c_12 (by rw [hbv_11]; simp [hp.1, hp.2, bI])
    exact c_throw (cls := xIAE) (text := "load must be 1 to 60") hx hb hfl hown (Or.inl rfl) (hts (.classLink RX2 34 xIAE) (by decide +kernel)) (hts (.initialized xIAE) (by decide +kernel)) hE0 hAL (by decide) (fun z hz => hts z (hin38 z hz)) (by decide +kernel) (by decide +kernel) hS hl.1 hml dX2_lift_10 dX2_lift_13 dX2_lift_14 dX2_lift_16 dX2_lift_19 hxt (Nat.le_of_ble_eq_true rfl) (Nat.le_of_ble_eq_true rfl) (Nat.le_of_ble_eq_true rfl) (Nat.le_of_ble_eq_true rfl) hlocks (Or.inl ⟨rfl, by rw [kLi, if_neg hn]⟩) (fun H1 hz hq => c_PX hP hq) (fun q h => h) (fun q h => h) (Nat.le_of_ble_eq_true rfl) (Nat.le_of_ble_eq_true rfl)
set_option maxHeartbeats 4000000 in
set_option maxRecDepth 100000 in
/-- setDown() -/
theorem k_setDown (l : Launch) (hfl : l.stackTraces = false) (D : va_G) (L0 : Nat) (cI : ClassId) (x rg tr pn ro rl d r : Nat) (ld li tl mo pl : Int32) (fo fl : Nat → Int32) (hd : d < 8) (hr : 3 ≤ r ∧ r ≤ 30) : vx_Met l yX2_setDown wsX2_setDown ({ frames := 7, cells := 1, slots := 6, locals := 108 }) (cP L0 D [(cI, .int)] [(x, .inr (2, [.ref rg, .ref tr, .ref pn, .int (nI d), .int (nI r), .int ld, .int li, .int tl, .int mo])), (rg, .inr (1, [.ref ro, .ref rl, .int pl])), (ro, .inl (cI, 4, .inl fo)), (rl, .inl (cI, 28, .inl (sh fl)))] [.ref x]) (cB (some (.int ld)) (fun H => kSD ld (fun q => safS fo fl pl q d r) = 0 ∧ va_P D vwCl [(x, .inr (2, [.ref rg, .ref tr, .ref pn, .int (nI d), .int (nI r), .int 0, .int li, .int tl, .int mo])), (rg, .inr (1, [.ref ro, .ref rl, .int pl])), (ro, .inl (cI, 4, .inl fo)), (rl, .inl (cI, 28, .inl (sh fl)))] H) (cA [(x, .inr (2, [.ref rg, .ref tr, .ref pn, .int (nI d), .int (nI r), .int ld, .int li, .int tl, .int mo])), (rg, .inr (1, [.ref ro, .ref rl, .int pl])), (ro, .inl (cI, 4, .inl fo)), (rl, .inl (cI, 28, .inl (sh fl)))])) (cX (fun E => E = xISE ∧ kSD ld (fun q => safS fo fl pl q d r) = 1) (fun H => va_P D vwCl [(x, .inr (2, [.ref rg, .ref tr, .ref pn, .int (nI d), .int (nI r), .int ld, .int li, .int tl, .int mo])), (rg, .inr (1, [.ref ro, .ref rl, .int pl])), (ro, .inl (cI, 4, .inl fo)), (rl, .inl (cI, 28, .inl (sh fl)))] H) (cA [(x, .inr (2, [.ref rg, .ref tr, .ref pn, .int (nI d), .int (nI r), .int ld, .int li, .int tl, .int mo])), (rg, .inr (1, [.ref ro, .ref rl, .int pl])), (ro, .inl (cI, 4, .inl fo)), (rl, .inl (cI, 28, .inl (sh fl)))])) 1 6 (cA [(x, .inr (2, [.ref rg, .ref tr, .ref pn, .int (nI d), .int (nI r), .int ld, .int li, .int tl, .int mo])), (rg, .inr (1, [.ref ro, .ref rl, .int pl])), (ro, .inl (cI, 4, .inl fo)), (rl, .inl (cI, 28, .inl (sh fl)))]) := by
  refine vx_ofW (cc := cX2_setDown) (maxL := 2) (ret := (some .int)) (by decide) rfl ?_
  intro p e s m args below meth c s₁ B hml hxt hv
  obtain ⟨rfl, hP, hK, hD0, hE0⟩ := hv
  have hx := B.exec
  have hb := B.bytes
  have hRt := B.returns
  have hts := atoms_spec (ws := wsX2_setDown) B.pre
  have hown : s.vm.findClass RX2 = some m.cls := findClass_of_methodNamed B.named
  have hlocks := B.notSynchronized
  have hAL : ∀ z9 : Nat, cA [(x, .inr (2, [.ref rg, .ref tr, .ref pn, .int (nI d), .int (nI r), .int ld, .int li, .int tl, .int mo])), (rg, .inr (1, [.ref ro, .ref rl, .int pl])), (ro, .inl (cI, 4, .inl fo)), (rl, .inl (cI, 28, .inl (sh fl)))] z9 → L0 ≤ z9 := fun z9 ⟨k9, e9, h9⟩ => hD0.2 k9 (z9, e9) h9
  have hD : va_D (cA [(x, .inr (2, [.ref rg, .ref tr, .ref pn, .int (nI d), .int (nI r), .int ld, .int li, .int tl, .int mo])), (rg, .inr (1, [.ref ro, .ref rl, .int pl])), (ro, .inl (cI, 4, .inl fo)), (rl, .inl (cI, 28, .inl (sh fl)))]) [(x, .inr (2, [.ref rg, .ref tr, .ref pn, .int (nI d), .int (nI r), .int ld, .int li, .int tl, .int mo])), (rg, .inr (1, [.ref ro, .ref rl, .int pl])), (ro, .inl (cI, 4, .inl fo)), (rl, .inl (cI, 28, .inl (sh fl)))] := ⟨hD0.1, fun k9 z9 h9 => cA_of h9⟩
  generalize hAe : cA [(x, .inr (2, [.ref rg, .ref tr, .ref pn, .int (nI d), .int (nI r), .int ld, .int li, .int tl, .int mo])), (rg, .inr (1, [.ref ro, .ref rl, .int pl])), (ro, .inl (cI, 4, .inl fo)), (rl, .inl (cI, 28, .inl (sh fl)))] = A at hD hAL ⊢
  have hS : va_S A s.heap s.heap [] := va_S.rf
  have hiX2 : ∀ w ∈ u_ws RX2 TX2 9, w ∈ wsX2_setDown := by decide +kernel
  have hl := lv_entry ([.ref x]) (n := 2) (Nat.le_of_ble_eq_true rfl)
  rw [lg_entry_eq]
  generalize (lg_sl ([.ref x]) ++ List.replicate (2 - (lg_sl ([.ref x])).length) Slot.unset).toArray = ls at hl ⊢
  have hl : lv_has ls 2 [(0, .ref x)] := hl
  have hin95 : ∀ z ∈ (vx_atS RX2 95 xISE kSup).filter goodWord, z ∈ wsX2_setDown := by decide +kernel
  refine lv_aload_n hx hb dX2_setDown_0 rfl (lv_at hl 0 rfl) ?_
  refine va_get (D := D) (ci := 2) (v := .int ld) (C := RX2) (T := TX2) (N := 9) hx hb hts hiX2 hown hK hP 0 rfl rfl 5 (by decide) (hts (.fieldLink RX2 48 "CraneReach" "load" "I") (by decide +kernel)) (fun _ h9 => h9) rfl dX2_setDown_1 ?_
  refine lv_if_ne (tgt := 17) hx hb dX2_setDown_4 (by decide) (fun c_13 => ?_) (fun c_13 => ?_)
  · refine lv_aload_n hx hb dX2_setDown_17 rfl (lv_at hl 0 rfl) ?_
    refine lv_aload_n hx hb dX2_setDown_18 rfl (lv_at hl 0 rfl) ?_
    refine va_get (D := D) (ci := 2) (v := .ref rg) (C := RX2) (T := TX2) (N := 9) hx hb hts hiX2 hown hK hP 0 rfl rfl 0 (by decide) (hts (.fieldLink RX2 12 "CraneReach" "rig" "LCraneReach$Rig;") (by decide +kernel)) (fun _ h9 => h9) rfl dX2_setDown_19 ?_
    refine lv_iconst (v := 0) hx hb dX2_setDown_22 (by decide) ?_
    have hPc := hP.sub (ws' := [(x, .inr (2, [.ref rg, .ref tr, .ref pn, .int (nI d), .int (nI r), .int ld, .int li, .int tl, .int mo])), (rg, .inr (1, [.ref ro, .ref rl, .int pl])), (ro, .inl (cI, 4, .inl fo)), (rl, .inl (cI, 28, .inl (sh fl)))]) [0, 1, 2, 3] rfl
    have hDc : va_D (fun q : Nat => L0 ≤ q) [(x, .inr (2, [.ref rg, .ref tr, .ref pn, .int (nI d), .int (nI r), .int ld, .int li, .int tl, .int mo])), (rg, .inr (1, [.ref ro, .ref rl, .int pl])), (ro, .inl (cI, 4, .inl fo)), (rl, .inl (cI, 28, .inl (sh fl)))] := (hD.sub (ws' := [(x, .inr (2, [.ref rg, .ref tr, .ref pn, .int (nI d), .int (nI r), .int ld, .int li, .int tl, .int mo])), (rg, .inr (1, [.ref ro, .ref rl, .int pl])), (ro, .inl (cI, 4, .inl fo)), (rl, .inl (cI, 28, .inl (sh fl)))]) [0, 1, 2, 3] (by decide) rfl).weaken (fun _ z9 _ h9 => hAL _ h9)
    have hKc := hK.sub (tys' := [(cI, .int)]) [0] rfl
    refine c_callT (vx_runV (As := [.ref rg, .int 0]) (rest := []) ⟨hx, hb, hml, hown, hts⟩ (k_requireSafe l hfl D L0 cI x rg tr pn rg ro rl d r ld li tl mo pl fo fl 0 hd hr) (cwV 2 hts gX2_setDown_X2_requireSafe rfl rfl rfl (by decide +kernel) ⟨Nat.le_of_ble_eq_true rfl, Nat.le_of_ble_eq_true rfl⟩) ⟨cP_blind, va_recv hKc hPc (ci := 2) (q0 := 0) rfl rfl, cP_of hPc hKc hDc (kE_at hE0 hAL hS)⟩ rfl rfl hl.1 rfl (lv_room (Nat.le_of_ble_eq_true rfl)) dX2_setDown_23 ⟨Nat.le_of_ble_eq_true rfl, Nat.le_of_ble_eq_true rfl⟩) hS (fun E ce q9 H1 hE hz1 hk1 hS hce hcv hcl => ?_) (fun hsf => ?_)
    · obtain ⟨rfl, hE⟩ := hE
      have hP := c_PX hP hk1
      exact vx_out (fun z hz => (hxt z hz).elim) hlocks hce hcv hcl (fun t ht hvm => ⟨⟨⟨rfl, by rw [kSD, if_neg (fun z => hE z.2)]⟩, by rw [ht]; exact hP⟩, hS.F ht⟩) (fun z hz => hS.2.2 z hz) (Nat.le_of_ble_eq_true rfl) (Nat.le_of_ble_eq_true rfl)
    · show W _ _ _ _ _ _ _ _ _ _ _ _ _ _ _ (F0 m 26 ls [])
      refine lv_aload_n hx hb dX2_setDown_26 rfl (lv_at hl 0 rfl) ?_
      refine va_get (D := D) (ci := 2) (v := .int ld) (C := RX2) (T := TX2) (N := 9) hx hb hts hiX2 hown hK hP 0 rfl rfl 5 (by decide) (hts (.fieldLink RX2 48 "CraneReach" "load" "I") (by decide +kernel)) (fun _ h9 => h9) rfl dX2_setDown_27 ?_
      refine lv_istore_n (lv' := [(1, .int ld), (0, .ref x)]) hx hb dX2_setDown_30 rfl hl (by decide) rfl (fun ls hl => ?_)
      refine lv_aload_n hx hb dX2_setDown_31 rfl (lv_at hl 1 rfl) ?_
      refine lv_iconst (v := 0) hx hb dX2_setDown_32 (by decide) ?_
      refine va_put (D := D) (ci := 2) (v := .int 0) (ty := .int) (C := RX2) (T := TX2) (N := 9) hx hb hts hiX2 tyX2 tyX2_ok nmX2 hown hK hP hD hS 0 rfl rfl 5 (by decide) (hts (.fieldLink RX2 48 "CraneReach" "load" "I") (by decide +kernel)) (fun _ h9 => h9) rfl (by decide +kernel) rfl rfl (Nat.le_of_ble_eq_true rfl) dX2_setDown_33 (fun H locs hP hD hS => ?_)
      have hP : va_P D vwCl [(x, .inr (2, [.ref rg, .ref tr, .ref pn, .int (nI d), .int (nI r), .int 0, .int li, .int tl, .int mo])), (rg, .inr (1, [.ref ro, .ref rl, .int pl])), (ro, .inl (cI, 4, .inl fo)), (rl, .inl (cI, 28, .inl (sh fl)))] H := hP
      have hD : va_D A [(x, .inr (2, [.ref rg, .ref tr, .ref pn, .int (nI d), .int (nI r), .int 0, .int li, .int tl, .int mo])), (rg, .inr (1, [.ref ro, .ref rl, .int pl])), (ro, .inl (cI, 4, .inl fo)), (rl, .inl (cI, 28, .inl (sh fl)))] := hD
      refine lv_iload_n hx hb dX2_setDown_36 rfl (lv_at hl 0 rfl) ?_
      refine vx_ret ?_
      refine W.widen (k := 1) (n := 6) (Nat.le_of_ble_eq_true rfl) (Nat.le_of_ble_eq_true rfl) ?_
      exact W.iret (v := ld) hx hb hRt (fun t ht hW => ⟨⟨rfl, by rw [ht]; exact ⟨by rw [kSD, if_pos ⟨c_13, hsf⟩], hP⟩⟩, hS.F ht⟩) hS.2.2 dX2_setDown_37
  · exact c_throw (cls := xISE) (text := "no load hangs on the boom") hx hb hfl hown (Or.inr (Or.inl rfl)) (hts (.classLink RX2 91 xISE) (by decide +kernel)) (hts (.initialized xISE) (by decide +kernel)) hE0 hAL (by decide) (fun z hz => hts z (hin95 z hz)) (by decide +kernel) (by decide +kernel) hS hl.1 hml dX2_setDown_7 dX2_setDown_10 dX2_setDown_11 dX2_setDown_13 dX2_setDown_16 hxt (Nat.le_of_ble_eq_true rfl) (Nat.le_of_ble_eq_true rfl) (Nat.le_of_ble_eq_true rfl) (Nat.le_of_ble_eq_true rfl) hlocks (⟨rfl, by rw [kSD, if_neg (fun z => z.1 c_13)]⟩) (fun H1 hz hq => c_PX hP hq) (fun q h => h) (fun q h => h) (Nat.le_of_ble_eq_true rfl) (Nat.le_of_ble_eq_true rfl)
set_option maxHeartbeats 4000000 in
set_option maxRecDepth 100000 in
/-- swing(steps, clockwise) -/
theorem k_swing (l : Launch) (hfl : l.stackTraces = false) (D : va_G) (L0 : Nat) (cI : ClassId) (x rg tr pn ro rl d r : Nat) (ld li tl mo pl : Int32) (fo fl : Nat → Int32) (v u : Int32) (hd : d < 8) (hr : 3 ≤ r ∧ r ≤ 30) : vx_Met l yX2_swing wsX2_swing ({ frames := 6, cells := 1, slots := 6, locals := 86 }) (cP L0 D [(cI, .int)] [(x, .inr (2, [.ref rg, .ref tr, .ref pn, .int (nI d), .int (nI r), .int ld, .int li, .int tl, .int mo])), (rg, .inr (1, [.ref ro, .ref rl, .int pl])), (ro, .inl (cI, 4, .inl fo)), (rl, .inl (cI, 28, .inl (sh fl)))] [.ref x, .int v, .int u]) (cB (some (.int (nI (swN (fun k => safS fo fl pl ld k r) (decide (¬ u = 0)) v.toNatClampNeg d).1))) (fun H => k1 (inR v 1 8) = 0 ∧ va_P D vwCl [(x, .inr (2, [.ref rg, .ref tr, .ref pn, .int (nI (swN (fun k => safS fo fl pl ld k r) (decide (¬ u = 0)) v.toNatClampNeg d).2), .int (nI r), .int ld, .int li, .int tl, .int (if 0 < ld then mo + nI (swN (fun k => safS fo fl pl ld k r) (decide (¬ u = 0)) v.toNatClampNeg d).1 else mo)])), (rg, .inr (1, [.ref ro, .ref rl, .int pl])), (ro, .inl (cI, 4, .inl fo)), (rl, .inl (cI, 28, .inl (sh fl)))] H) (cA [(x, .inr (2, [.ref rg, .ref tr, .ref pn, .int (nI d), .int (nI r), .int ld, .int li, .int tl, .int mo])), (rg, .inr (1, [.ref ro, .ref rl, .int pl])), (ro, .inl (cI, 4, .inl fo)), (rl, .inl (cI, 28, .inl (sh fl)))])) (cX (fun E => E = xIAE ∧ k1 (inR v 1 8) = 1) (fun H => va_P D vwCl [(x, .inr (2, [.ref rg, .ref tr, .ref pn, .int (nI d), .int (nI r), .int ld, .int li, .int tl, .int mo])), (rg, .inr (1, [.ref ro, .ref rl, .int pl])), (ro, .inl (cI, 4, .inl fo)), (rl, .inl (cI, 28, .inl (sh fl)))] H) (cA [(x, .inr (2, [.ref rg, .ref tr, .ref pn, .int (nI d), .int (nI r), .int ld, .int li, .int tl, .int mo])), (rg, .inr (1, [.ref ro, .ref rl, .int pl])), (ro, .inl (cI, 4, .inl fo)), (rl, .inl (cI, 28, .inl (sh fl)))])) 1 6 (cA [(x, .inr (2, [.ref rg, .ref tr, .ref pn, .int (nI d), .int (nI r), .int ld, .int li, .int tl, .int mo])), (rg, .inr (1, [.ref ro, .ref rl, .int pl])), (ro, .inl (cI, 4, .inl fo)), (rl, .inl (cI, 28, .inl (sh fl)))]) := by
  refine vx_ofW (cc := cX2_swing) (maxL := 5) (ret := (some .int)) (by decide) rfl ?_
  intro p e s m args below meth c s₁ B hml hxt hv
  obtain ⟨rfl, hP, hK, hD0, hE0⟩ := hv
  have hx := B.exec
  have hb := B.bytes
  have hRt := B.returns
  have hts := atoms_spec (ws := wsX2_swing) B.pre
  have hown : s.vm.findClass RX2 = some m.cls := findClass_of_methodNamed B.named
  have hlocks := B.notSynchronized
  have hAL : ∀ z9 : Nat, cA [(x, .inr (2, [.ref rg, .ref tr, .ref pn, .int (nI d), .int (nI r), .int ld, .int li, .int tl, .int mo])), (rg, .inr (1, [.ref ro, .ref rl, .int pl])), (ro, .inl (cI, 4, .inl fo)), (rl, .inl (cI, 28, .inl (sh fl)))] z9 → L0 ≤ z9 := fun z9 ⟨k9, e9, h9⟩ => hD0.2 k9 (z9, e9) h9
  have hD : va_D (cA [(x, .inr (2, [.ref rg, .ref tr, .ref pn, .int (nI d), .int (nI r), .int ld, .int li, .int tl, .int mo])), (rg, .inr (1, [.ref ro, .ref rl, .int pl])), (ro, .inl (cI, 4, .inl fo)), (rl, .inl (cI, 28, .inl (sh fl)))]) [(x, .inr (2, [.ref rg, .ref tr, .ref pn, .int (nI d), .int (nI r), .int ld, .int li, .int tl, .int mo])), (rg, .inr (1, [.ref ro, .ref rl, .int pl])), (ro, .inl (cI, 4, .inl fo)), (rl, .inl (cI, 28, .inl (sh fl)))] := ⟨hD0.1, fun k9 z9 h9 => cA_of h9⟩
  generalize hAe : cA [(x, .inr (2, [.ref rg, .ref tr, .ref pn, .int (nI d), .int (nI r), .int ld, .int li, .int tl, .int mo])), (rg, .inr (1, [.ref ro, .ref rl, .int pl])), (ro, .inl (cI, 4, .inl fo)), (rl, .inl (cI, 28, .inl (sh fl)))] = A at hD hAL ⊢
  have hS : va_S A s.heap s.heap [] := va_S.rf
  have hiX2 : ∀ w ∈ u_ws RX2 TX2 9, w ∈ wsX2_swing := by decide +kernel
  have hl := lv_entry ([.ref x, .int v, .int u]) (n := 5) (Nat.le_of_ble_eq_true rfl)
  rw [lg_entry_eq]
  generalize (lg_sl ([.ref x, .int v, .int u]) ++ List.replicate (5 - (lg_sl ([.ref x, .int v, .int u])).length) Slot.unset).toArray = ls at hl ⊢
  have hl : lv_has ls 5 [(0, .ref x), (1, .int v), (2, .int u)] := hl
  have hin38 : ∀ z ∈ (vx_atS RX2 38 xIAE kSup).filter goodWord, z ∈ wsX2_swing := by decide +kernel
  refine lv_iload_n hx hb dX2_swing_0 rfl (lv_at hl 1 rfl) ?_
  refine lv_iconst (v := 1) hx hb dX2_swing_1 (by decide) ?_
  refine lv_bipush (v := 8) hx hb dX2_swing_2 (by decide) ?_
  have hPc := hP.sub (ws' := []) [] rfl
  have hDc : va_D (fun q : Nat => L0 ≤ q) [] := (hD.sub (ws' := []) [] (by decide) rfl).weaken (fun _ z9 _ h9 => hAL _ h9)
  have hKc := hK.sub (tys' := []) [] rfl
  refine c_callR (va_runS (As := [.int v, .int 1, .int 8]) (rest := []) ⟨hx, hb, hml, hown, hts⟩ (k_isWithin l D L0 v 1 8) (va_cwS 3 hts gX2_swing_X2_isWithin rfl rfl rfl (by decide +kernel) ⟨Nat.le_of_ble_eq_true rfl, Nat.le_of_ble_eq_true rfl⟩) ⟨cP_blind, cP_of hPc hKc hDc (kE_at hE0 hAL hS)⟩ rfl rfl hl.1 rfl (lv_room (Nat.le_of_ble_eq_true rfl)) dX2_swing_4 ⟨Nat.le_of_ble_eq_true rfl, Nat.le_of_ble_eq_true rfl⟩) ?_
  show W _ _ _ _ _ _ _ _ _ _ _ _ _ _ _ (F0 m 7 ls [.int (bI (decide (1 ≤ v) && decide (v ≤ 8)))])
  obtain ⟨b_14, hbv_15⟩ : ∃ z : Bool, z = (decide (1 ≤ v) && decide (v ≤ 8)) := ⟨_, rfl⟩
  refine c_top (show bI (decide (1 ≤ v) && decide (v ≤ 8)) = bI b_14 from by rw [hbv_15]) ?_
  refine lv_if_ne (tgt := 20) hx hb dX2_swing_7 (by decide) (fun c_16 => ?_) (fun c_16 => ?_)
  · have hp : inR v 1 8 := by cases b_14 with | true => simpa using hbv_15.symm | false => exact absurd rfl c_16
    obtain ⟨kv, hkv, hv⟩ := inR_n1 (n := 8) (by decide) hp
    have hl : lv_has ls 5 [(0, .ref x), (1, .int (nI kv)), (2, .int u)] := (show v = nI kv from hv) ▸ hl
    have hvn : v.toNatClampNeg = kv := by rw [hv, nI_clamp (by omega)]
    refine lv_iload_n hx hb dX2_swing_20 rfl (lv_at hl 2 rfl) ?_
    refine lv_if_eq (tgt := 28) hx hb dX2_swing_21 (by decide) (fun c_17 => ?_) (fun c_17 => ?_)
    · refine lv_iconst (v := -1) hx hb dX2_swing_28 (by decide) ?_
      have htu : ∀ z, z < 8 → tnI (nI z) (-1) = nI (swX (decide (¬ u = 0)) z) := fun z hz => by rw [tn_m z hz]; unfold swX; simp [c_17]
      have loop : ∀ (n : Nat) (k : Nat) (dk : Nat) (H : Heap) (locs : List Loc) (ls : Array Slot), k + n = kv → dk < 8 → (k + (swN (fun k => safS fo fl pl ld k r) (decide (¬ u = 0)) n dk).1 = (swN (fun k => safS fo fl pl ld k r) (decide (¬ u = 0)) v.toNatClampNeg d).1 ∧ (swN (fun k => safS fo fl pl ld k r) (decide (¬ u = 0)) n dk).2 = (swN (fun k => safS fo fl pl ld k r) (decide (¬ u = 0)) v.toNatClampNeg d).2) → lv_has ls 5 [(4, .int (nI k)), (3, .int (-1)), (0, .ref x), (1, .int (nI kv)), (2, .int u)] → va_P D vwCl [(x, .inr (2, [.ref rg, .ref tr, .ref pn, .int (nI dk), .int (nI r), .int ld, .int li, .int tl, .int mo])), (rg, .inr (1, [.ref ro, .ref rl, .int pl])), (ro, .inl (cI, 4, .inl fo)), (rl, .inl (cI, 28, .inl (sh fl)))] H → va_D A [(x, .inr (2, [.ref rg, .ref tr, .ref pn, .int (nI dk), .int (nI r), .int ld, .int li, .int tl, .int mo])), (rg, .inr (1, [.ref ro, .ref rl, .int pl])), (ro, .inl (cI, 4, .inl fo)), (rl, .inl (cI, 28, .inl (sh fl)))] → va_S A s.heap H locs → W p l e (headSpec wsX2_swing ({ frames := 6, cells := 1, slots := 6, locals := 86 })).room s m ([.ref x, .int v, .int u]).toArray below meth c H locs 0 0 (vx_MQ below (cB (some (.int (nI (swN (fun k => safS fo fl pl ld k r) (decide (¬ u = 0)) v.toNatClampNeg d).1))) (fun H => k1 (inR v 1 8) = 0 ∧ va_P D vwCl [(x, .inr (2, [.ref rg, .ref tr, .ref pn, .int (nI (swN (fun k => safS fo fl pl ld k r) (decide (¬ u = 0)) v.toNatClampNeg d).2), .int (nI r), .int ld, .int li, .int tl, .int (if 0 < ld then mo + nI (swN (fun k => safS fo fl pl ld k r) (decide (¬ u = 0)) v.toNatClampNeg d).1 else mo)])), (rg, .inr (1, [.ref ro, .ref rl, .int pl])), (ro, .inl (cI, 4, .inl fo)), (rl, .inl (cI, 28, .inl (sh fl)))] H) A) (cX (fun E => E = xIAE ∧ k1 (inR v 1 8) = 1) (fun H => va_P D vwCl [(x, .inr (2, [.ref rg, .ref tr, .ref pn, .int (nI d), .int (nI r), .int ld, .int li, .int tl, .int mo])), (rg, .inr (1, [.ref ro, .ref rl, .int pl])), (ro, .inl (cI, 4, .inl fo)), (rl, .inl (cI, 28, .inl (sh fl)))] H) A) ([.ref x, .int v, .int u]).toArray s 1 6 A) (F0 m 33 ls []) := by
        intro n
        induction n with
        | zero =>
          intro k dk H locs ls hn hdk hG hl hP hD hS
          have hG1 : (swN (fun k => safS fo fl pl ld k r) (decide (¬ u = 0)) v.toNatClampNeg d).1 = k := by rw [← hG.1]; rfl
          have hG2 : (swN (fun k => safS fo fl pl ld k r) (decide (¬ u = 0)) v.toNatClampNeg d).2 = dk := by rw [← hG.2]; rfl
          refine lv_iload hx hb dX2_swing_33 (lv_at hl 0 rfl) ?_
          refine lv_iload_n hx hb dX2_swing_35 rfl (lv_at hl 3 rfl) ?_
          refine lv_icmp_ge (tgt := 83) hx hb dX2_swing_36 (by decide) (fun _ => ?_) (fun c_18 => absurd (by rw [show k = kv by omega]; exact Int32.le_refl _) c_18)
          refine lv_aload_n hx hb dX2_swing_83 rfl (lv_at hl 2 rfl) ?_
          refine lv_iload hx hb dX2_swing_84 (lv_at hl 0 rfl) ?_
          have hPc := hP.sub (ws' := [(x, .inr (2, [.ref rg, .ref tr, .ref pn, .int (nI dk), .int (nI r), .int ld, .int li, .int tl, .int mo]))]) [0] rfl
          have hDc : va_D (fun q : Nat => L0 ≤ q) [(x, .inr (2, [.ref rg, .ref tr, .ref pn, .int (nI dk), .int (nI r), .int ld, .int li, .int tl, .int mo]))] := (hD.sub (ws' := [(x, .inr (2, [.ref rg, .ref tr, .ref pn, .int (nI dk), .int (nI r), .int ld, .int li, .int tl, .int mo]))]) [0] (by decide) rfl).weaken (fun _ z9 _ h9 => hAL _ h9)
          have hKc := hK.sub (tys' := []) [] rfl
          refine c_callB (va_runV (As := [.int (nI k)]) (rest := []) ⟨hx, hb, hml, hown, hts⟩ (k_countMoves l D L0 x rg tr pn dk r ld li tl mo (nI k)) (cwV 1 hts gX2_swing_X2_countMoves rfl rfl rfl (by decide +kernel) ⟨Nat.le_of_ble_eq_true rfl, Nat.le_of_ble_eq_true rfl⟩) ⟨cP_blind, va_recv hKc hPc (ci := 2) (q0 := 0) rfl rfl, cP_of hPc hKc hDc (kE_at hE0 hAL hS)⟩ rfl rfl hl.1 rfl (lv_room (Nat.le_of_ble_eq_true rfl)) dX2_swing_86 ⟨Nat.le_of_ble_eq_true rfl, Nat.le_of_ble_eq_true rfl⟩) hS (fun z9 _ ⟨k9, e9, h9⟩ => (hD.sub (ws' := [(x, .inr (2, [.ref rg, .ref tr, .ref pn, .int (nI dk), .int (nI r), .int ld, .int li, .int tl, .int mo]))]) [0] (by decide) rfl).2 k9 (z9, e9) h9) (fun z9 ⟨k9, e9, h9⟩ => (hD.sub (ws' := [(x, .inr (2, [.ref rg, .ref tr, .ref pn, .int (nI dk), .int (nI r), .int ld, .int li, .int tl, .int mo]))]) [0] (by decide) rfl).2 k9 (z9, e9) h9) (fun H1 locs hB hz1 hk1 hS => ?_)
          obtain ⟨hP, hD⟩ := c_join (ws' := [(x, .inr (2, [.ref rg, .ref tr, .ref pn, .int (nI dk), .int (nI r), .int ld, .int li, .int tl, .int (if 0 < ld then mo + nI k else mo)])), (rg, .inr (1, [.ref ro, .ref rl, .int pl])), (ro, .inl (cI, 4, .inl fo)), (rl, .inl (cI, 28, .inl (sh fl)))]) (wr := [(rg, .inr (1, [.ref ro, .ref rl, .int pl])), (ro, .inl (cI, 4, .inl fo)), (rl, .inl (cI, 28, .inl (sh fl)))]) (w1 := [(x, .inr (2, [.ref rg, .ref tr, .ref pn, .int (nI dk), .int (nI r), .int ld, .int li, .int tl, .int (if 0 < ld then mo + nI k else mo)]))]) hP hD [0] [1, 2, 3] [3, 0, 1, 2] rfl rfl (by decide) (by decide) hk1 hB rfl rfl rfl (by decide)
          generalize H1 = H at hP hS ⊢
          show W _ _ _ _ _ _ _ _ _ _ _ _ _ _ _ (F0 m 89 ls [])
          rw [← hG2] at hP
          rw [← hG1] at hP
          refine lv_iload hx hb dX2_swing_89 (lv_at hl 0 rfl) ?_
          refine vx_ret ?_
          refine W.widen (k := 1) (n := 6) (Nat.le_of_ble_eq_true rfl) (Nat.le_of_ble_eq_true rfl) ?_
          exact W.iret (v := (nI k)) hx hb hRt (fun t ht hW => ⟨⟨by rw [← hG1], by rw [ht]; exact ⟨k1_yes hp, hP⟩⟩, hS.F ht⟩) hS.2.2 dX2_swing_91
        | succ n ih =>
          intro k dk H locs ls hn hdk hG hl hP hD hS
          refine lv_iload hx hb dX2_swing_33 (lv_at hl 0 rfl) ?_
          refine lv_iload_n hx hb dX2_swing_35 rfl (lv_at hl 3 rfl) ?_
          refine lv_icmp_ge (tgt := 83) hx hb dX2_swing_36 (by decide) (fun c_19 => absurd c_19 (nI_ge (by omega) (by omega))) (fun _ => ?_)
          refine lv_aload_n hx hb dX2_swing_39 rfl (lv_at hl 2 rfl) ?_
          refine va_get (D := D) (ci := 2) (v := .ref rg) (C := RX2) (T := TX2) (N := 9) hx hb hts hiX2 hown hK hP 0 rfl rfl 0 (by decide) (hts (.fieldLink RX2 12 "CraneReach" "rig" "LCraneReach$Rig;") (by decide +kernel)) (fun _ h9 => h9) rfl dX2_swing_40 ?_
          refine lv_aload_n hx hb dX2_swing_43 rfl (lv_at hl 2 rfl) ?_
          refine va_get (D := D) (ci := 2) (v := .int ld) (C := RX2) (T := TX2) (N := 9) hx hb hts hiX2 hown hK hP 0 rfl rfl 5 (by decide) (hts (.fieldLink RX2 48 "CraneReach" "load" "I") (by decide +kernel)) (fun _ h9 => h9) rfl dX2_swing_44 ?_
          refine lv_aload_n hx hb dX2_swing_47 rfl (lv_at hl 2 rfl) ?_
          refine va_get (D := D) (ci := 2) (v := .int (nI dk)) (C := RX2) (T := TX2) (N := 9) hx hb hts hiX2 hown hK hP 0 rfl rfl 3 (by decide) (hts (.fieldLink RX2 98 "CraneReach" "direction" "I") (by decide +kernel)) (fun _ h9 => h9) rfl dX2_swing_48 ?_
          refine lv_iload_n hx hb dX2_swing_51 rfl (lv_at hl 1 rfl) ?_
          have hPc := hP.sub (ws' := []) [] rfl
          have hDc : va_D (fun q : Nat => L0 ≤ q) [] := (hD.sub (ws' := []) [] (by decide) rfl).weaken (fun _ z9 _ h9 => hAL _ h9)
          have hKc := hK.sub (tys' := []) [] rfl
          refine c_callR (va_runS (As := [.int (nI dk), .int (-1)]) (rest := [.int ld, .ref rg]) ⟨hx, hb, hml, hown, hts⟩ (k_turned l D L0 (nI dk) (-1)) (va_cwS 2 hts gX2_swing_X2_turned rfl rfl rfl (by decide +kernel) ⟨Nat.le_of_ble_eq_true rfl, Nat.le_of_ble_eq_true rfl⟩) ⟨cP_blind, cP_of hPc hKc hDc (kE_at hE0 hAL hS)⟩ rfl rfl hl.1 rfl (lv_room (Nat.le_of_ble_eq_true rfl)) dX2_swing_52 ⟨Nat.le_of_ble_eq_true rfl, Nat.le_of_ble_eq_true rfl⟩) ?_
          show W _ _ _ _ _ _ _ _ _ _ _ _ _ _ _ (F0 m 55 ls [.int (tnI (nI dk) (-1)), .int ld, .ref rg])
          refine c_top (show tnI (nI dk) (-1) = nI (swX (decide (¬ u = 0)) dk) from htu dk hdk) ?_
          refine lv_aload_n hx hb dX2_swing_55 rfl (lv_at hl 2 rfl) ?_
          refine va_get (D := D) (ci := 2) (v := .int (nI r)) (C := RX2) (T := TX2) (N := 9) hx hb hts hiX2 hown hK hP 0 rfl rfl 4 (by decide) (hts (.fieldLink RX2 26 "CraneReach" "reach" "I") (by decide +kernel)) (fun _ h9 => h9) rfl dX2_swing_56 ?_
          have hPc := hP.sub (ws' := [(rg, .inr (1, [.ref ro, .ref rl, .int pl])), (ro, .inl (cI, 4, .inl fo)), (rl, .inl (cI, 28, .inl (sh fl)))]) [1, 2, 3] rfl
          have hDc : va_D (fun q : Nat => L0 ≤ q) [(rg, .inr (1, [.ref ro, .ref rl, .int pl])), (ro, .inl (cI, 4, .inl fo)), (rl, .inl (cI, 28, .inl (sh fl)))] := (hD.sub (ws' := [(rg, .inr (1, [.ref ro, .ref rl, .int pl])), (ro, .inl (cI, 4, .inl fo)), (rl, .inl (cI, 28, .inl (sh fl)))]) [1, 2, 3] (by decide) rfl).weaken (fun _ z9 _ h9 => hAL _ h9)
          have hKc := hK.sub (tys' := [(cI, .int)]) [0] rfl
          refine c_callR (va_runV (As := [.int ld, .int (nI (swX (decide (¬ u = 0)) dk)), .int (nI r)]) (rest := []) ⟨hx, hb, hml, hown, hts⟩ (k_isSafe l D L0 cI rg ro rl pl fo fl (swX (decide (¬ u = 0)) dk) r ld swX_lt hr) (cwV 3 hts gX2_swing_X1_isSafe rfl rfl rfl (by decide +kernel) ⟨Nat.le_of_ble_eq_true rfl, Nat.le_of_ble_eq_true rfl⟩) ⟨cP_blind, va_recv hKc hPc (ci := 1) (q0 := 0) rfl rfl, cP_of hPc hKc hDc (kE_at hE0 hAL hS)⟩ rfl rfl hl.1 rfl (lv_room (Nat.le_of_ble_eq_true rfl)) dX2_swing_59 ⟨Nat.le_of_ble_eq_true rfl, Nat.le_of_ble_eq_true rfl⟩) ?_
          show W _ _ _ _ _ _ _ _ _ _ _ _ _ _ _ (F0 m 62 ls [.int (bI (safS fo fl pl ld (swX (decide (¬ u = 0)) dk) r))])
          obtain ⟨b_20, hbv_21⟩ : ∃ z : Bool, z = safS fo fl pl ld (swX (decide (¬ u = 0)) dk) r := ⟨_, rfl⟩
          refine c_top (show bI (safS fo fl pl ld (swX (decide (¬ u = 0)) dk) r) = bI b_20 from by rw [hbv_21]) ?_
          refine lv_if_eq (tgt := 83) hx hb dX2_swing_62 (by decide) (fun c_22 => ?_) (fun c_22 => ?_)
          · have hs : safS fo fl pl ld (swX (decide (¬ u = 0)) dk) r = false := by rw [← hbv_21]; cases b_20 with | false => rfl | true => exact absurd c_22 (by decide)
            have hG1 : (swN (fun k => safS fo fl pl ld k r) (decide (¬ u = 0)) v.toNatClampNeg d).1 = k := by rw [← hG.1, swN, if_neg (by rw [hs]; decide)]; rfl
            have hG2 : (swN (fun k => safS fo fl pl ld k r) (decide (¬ u = 0)) v.toNatClampNeg d).2 = dk := by rw [← hG.2, swN, if_neg (by rw [hs]; decide)]
            refine lv_aload_n hx hb dX2_swing_83 rfl (lv_at hl 2 rfl) ?_
            refine lv_iload hx hb dX2_swing_84 (lv_at hl 0 rfl) ?_
            have hPc := hP.sub (ws' := [(x, .inr (2, [.ref rg, .ref tr, .ref pn, .int (nI dk), .int (nI r), .int ld, .int li, .int tl, .int mo]))]) [0] rfl
            have hDc : va_D (fun q : Nat => L0 ≤ q) [(x, .inr (2, [.ref rg, .ref tr, .ref pn, .int (nI dk), .int (nI r), .int ld, .int li, .int tl, .int mo]))] := (hD.sub (ws' := [(x, .inr (2, [.ref rg, .ref tr, .ref pn, .int (nI dk), .int (nI r), .int ld, .int li, .int tl, .int mo]))]) [0] (by decide) rfl).weaken (fun _ z9 _ h9 => hAL _ h9)
            have hKc := hK.sub (tys' := []) [] rfl
            refine c_callB (va_runV (As := [.int (nI k)]) (rest := []) ⟨hx, hb, hml, hown, hts⟩ (k_countMoves l D L0 x rg tr pn dk r ld li tl mo (nI k)) (cwV 1 hts gX2_swing_X2_countMoves rfl rfl rfl (by decide +kernel) ⟨Nat.le_of_ble_eq_true rfl, Nat.le_of_ble_eq_true rfl⟩) ⟨cP_blind, va_recv hKc hPc (ci := 2) (q0 := 0) rfl rfl, cP_of hPc hKc hDc (kE_at hE0 hAL hS)⟩ rfl rfl hl.1 rfl (lv_room (Nat.le_of_ble_eq_true rfl)) dX2_swing_86 ⟨Nat.le_of_ble_eq_true rfl, Nat.le_of_ble_eq_true rfl⟩) hS (fun z9 _ ⟨k9, e9, h9⟩ => (hD.sub (ws' := [(x, .inr (2, [.ref rg, .ref tr, .ref pn, .int (nI dk), .int (nI r), .int ld, .int li, .int tl, .int mo]))]) [0] (by decide) rfl).2 k9 (z9, e9) h9) (fun z9 ⟨k9, e9, h9⟩ => (hD.sub (ws' := [(x, .inr (2, [.ref rg, .ref tr, .ref pn, .int (nI dk), .int (nI r), .int ld, .int li, .int tl, .int mo]))]) [0] (by decide) rfl).2 k9 (z9, e9) h9) (fun H1 locs hB hz1 hk1 hS => ?_)
            obtain ⟨hP, hD⟩ := c_join (ws' := [(x, .inr (2, [.ref rg, .ref tr, .ref pn, .int (nI dk), .int (nI r), .int ld, .int li, .int tl, .int (if 0 < ld then mo + nI k else mo)])), (rg, .inr (1, [.ref ro, .ref rl, .int pl])), (ro, .inl (cI, 4, .inl fo)), (rl, .inl (cI, 28, .inl (sh fl)))]) (wr := [(rg, .inr (1, [.ref ro, .ref rl, .int pl])), (ro, .inl (cI, 4, .inl fo)), (rl, .inl (cI, 28, .inl (sh fl)))]) (w1 := [(x, .inr (2, [.ref rg, .ref tr, .ref pn, .int (nI dk), .int (nI r), .int ld, .int li, .int tl, .int (if 0 < ld then mo + nI k else mo)]))]) hP hD [0] [1, 2, 3] [3, 0, 1, 2] rfl rfl (by decide) (by decide) hk1 hB rfl rfl rfl (by decide)
            generalize H1 = H at hP hS ⊢
            show W _ _ _ _ _ _ _ _ _ _ _ _ _ _ _ (F0 m 89 ls [])
            rw [← hG2] at hP
            rw [← hG1] at hP
            refine lv_iload hx hb dX2_swing_89 (lv_at hl 0 rfl) ?_
            refine vx_ret ?_
            refine W.widen (k := 1) (n := 6) (Nat.le_of_ble_eq_true rfl) (Nat.le_of_ble_eq_true rfl) ?_
            exact W.iret (v := (nI k)) hx hb hRt (fun t ht hW => ⟨⟨by rw [← hG1], by rw [ht]; exact ⟨k1_yes hp, hP⟩⟩, hS.F ht⟩) hS.2.2 dX2_swing_91
          · have hs : safS fo fl pl ld (swX (decide (¬ u = 0)) dk) r = true := by rw [← hbv_21]; cases b_20 with | true => rfl | false => exact absurd rfl c_22
            refine lv_aload_n hx hb dX2_swing_65 rfl (lv_at hl 2 rfl) ?_
            refine lv_aload_n hx hb dX2_swing_66 rfl (lv_at hl 2 rfl) ?_
            refine va_get (D := D) (ci := 2) (v := .int (nI dk)) (C := RX2) (T := TX2) (N := 9) hx hb hts hiX2 hown hK hP 0 rfl rfl 3 (by decide) (hts (.fieldLink RX2 98 "CraneReach" "direction" "I") (by decide +kernel)) (fun _ h9 => h9) rfl dX2_swing_67 ?_
            refine lv_iload_n hx hb dX2_swing_70 rfl (lv_at hl 1 rfl) ?_
            have hPc := hP.sub (ws' := []) [] rfl
            have hDc : va_D (fun q : Nat => L0 ≤ q) [] := (hD.sub (ws' := []) [] (by decide) rfl).weaken (fun _ z9 _ h9 => hAL _ h9)
            have hKc := hK.sub (tys' := []) [] rfl
            refine c_callR (va_runS (As := [.int (nI dk), .int (-1)]) (rest := [.ref x]) ⟨hx, hb, hml, hown, hts⟩ (k_turned l D L0 (nI dk) (-1)) (va_cwS 2 hts gX2_swing_X2_turned rfl rfl rfl (by decide +kernel) ⟨Nat.le_of_ble_eq_true rfl, Nat.le_of_ble_eq_true rfl⟩) ⟨cP_blind, cP_of hPc hKc hDc (kE_at hE0 hAL hS)⟩ rfl rfl hl.1 rfl (lv_room (Nat.le_of_ble_eq_true rfl)) dX2_swing_71 ⟨Nat.le_of_ble_eq_true rfl, Nat.le_of_ble_eq_true rfl⟩) ?_
            show W _ _ _ _ _ _ _ _ _ _ _ _ _ _ _ (F0 m 74 ls [.int (tnI (nI dk) (-1)), .ref x])
            refine c_top (show tnI (nI dk) (-1) = nI (swX (decide (¬ u = 0)) dk) from htu dk hdk) ?_
            refine va_put (D := D) (ci := 2) (v := .int (nI (swX (decide (¬ u = 0)) dk))) (ty := .int) (C := RX2) (T := TX2) (N := 9) hx hb hts hiX2 tyX2 tyX2_ok nmX2 hown hK hP hD hS 0 rfl rfl 3 (by decide) (hts (.fieldLink RX2 98 "CraneReach" "direction" "I") (by decide +kernel)) (fun _ h9 => h9) rfl (by decide +kernel) rfl rfl (Nat.le_of_ble_eq_true rfl) dX2_swing_74 (fun H locs hP hD hS => ?_)
            have hP : va_P D vwCl [(x, .inr (2, [.ref rg, .ref tr, .ref pn, .int (nI (swX (decide (¬ u = 0)) dk)), .int (nI r), .int ld, .int li, .int tl, .int mo])), (rg, .inr (1, [.ref ro, .ref rl, .int pl])), (ro, .inl (cI, 4, .inl fo)), (rl, .inl (cI, 28, .inl (sh fl)))] H := hP
            have hD : va_D A [(x, .inr (2, [.ref rg, .ref tr, .ref pn, .int (nI (swX (decide (¬ u = 0)) dk)), .int (nI r), .int ld, .int li, .int tl, .int mo])), (rg, .inr (1, [.ref ro, .ref rl, .int pl])), (ro, .inl (cI, 4, .inl fo)), (rl, .inl (cI, 28, .inl (sh fl)))] := hD
            refine lv_iinc (v := (nI k) + 1) (lv' := [(4, .int ((nI k) + 1)), (3, .int (-1)), (0, .ref x), (1, .int (nI kv)), (2, .int u)]) hx hb dX2_swing_77 hl (k := 0) rfl rfl (by decide) rfl (fun ls hl => ?_)
            refine lv_goto (tgt := 33) hx hb dX2_swing_80 (by decide) ?_
            have hl : lv_has ls 5 [(4, .int (nI (k + 1))), (3, .int (-1)), (0, .ref x), (1, .int (nI kv)), (2, .int u)] := (show (nI k) + 1 = nI (k + 1) from nI_1 k) ▸ hl
            exact ih (k + 1) (swX (decide (¬ u = 0)) dk) _ _ _ (by omega) swX_lt (by rw [swN, if_pos hs] at hG; exact ⟨by rw [← hG.1]; exact (Nat.add_right_comm k 1 _).trans (Nat.add_assoc k _ 1), hG.2⟩) (lv_sub hl [0, 1, 2, 3, 4] rfl) hP hD hS
      refine lv_istore_n (lv' := [(3, .int (-1)), (0, .ref x), (1, .int (nI kv)), (2, .int u)]) hx hb dX2_swing_29 rfl hl (by decide) rfl (fun ls hl => ?_)
      refine lv_iconst (v := 0) hx hb dX2_swing_30 (by decide) ?_
      refine lv_istore (lv' := [(4, .int 0), (3, .int (-1)), (0, .ref x), (1, .int (nI kv)), (2, .int u)]) hx hb dX2_swing_31 hl (by decide) rfl (fun ls hl => ?_)
      have hl : lv_has ls 5 [(4, .int (nI 0)), (3, .int (-1)), (0, .ref x), (1, .int (nI kv)), (2, .int u)] := (show 0 = nI 0 from rfl) ▸ hl
      exact loop kv 0 d _ _ _ (by omega) hd (by rw [hvn]; exact ⟨Nat.zero_add _, rfl⟩) (lv_sub hl [0, 1, 2, 3, 4] rfl) hP hD hS
    · refine lv_iconst (v := 1) hx hb dX2_swing_24 (by decide) ?_
      refine lv_goto (tgt := 29) hx hb dX2_swing_25 (by decide) ?_
      have htu : ∀ z, z < 8 → tnI (nI z) 1 = nI (swX (decide (¬ u = 0)) z) := fun z hz => by rw [tn_1 z hz]; unfold swX; simp [c_17]
      have loop : ∀ (n : Nat) (k : Nat) (dk : Nat) (H : Heap) (locs : List Loc) (ls : Array Slot), k + n = kv → dk < 8 → (k + (swN (fun k => safS fo fl pl ld k r) (decide (¬ u = 0)) n dk).1 = (swN (fun k => safS fo fl pl ld k r) (decide (¬ u = 0)) v.toNatClampNeg d).1 ∧ (swN (fun k => safS fo fl pl ld k r) (decide (¬ u = 0)) n dk).2 = (swN (fun k => safS fo fl pl ld k r) (decide (¬ u = 0)) v.toNatClampNeg d).2) → lv_has ls 5 [(4, .int (nI k)), (3, .int 1), (0, .ref x), (1, .int (nI kv)), (2, .int u)] → va_P D vwCl [(x, .inr (2, [.ref rg, .ref tr, .ref pn, .int (nI dk), .int (nI r), .int ld, .int li, .int tl, .int mo])), (rg, .inr (1, [.ref ro, .ref rl, .int pl])), (ro, .inl (cI, 4, .inl fo)), (rl, .inl (cI, 28, .inl (sh fl)))] H → va_D A [(x, .inr (2, [.ref rg, .ref tr, .ref pn, .int (nI dk), .int (nI r), .int ld, .int li, .int tl, .int mo])), (rg, .inr (1, [.ref ro, .ref rl, .int pl])), (ro, .inl (cI, 4, .inl fo)), (rl, .inl (cI, 28, .inl (sh fl)))] → va_S A s.heap H locs → W p l e (headSpec wsX2_swing ({ frames := 6, cells := 1, slots := 6, locals := 86 })).room s m ([.ref x, .int v, .int u]).toArray below meth c H locs 0 0 (vx_MQ below (cB (some (.int (nI (swN (fun k => safS fo fl pl ld k r) (decide (¬ u = 0)) v.toNatClampNeg d).1))) (fun H => k1 (inR v 1 8) = 0 ∧ va_P D vwCl [(x, .inr (2, [.ref rg, .ref tr, .ref pn, .int (nI (swN (fun k => safS fo fl pl ld k r) (decide (¬ u = 0)) v.toNatClampNeg d).2), .int (nI r), .int ld, .int li, .int tl, .int (if 0 < ld then mo + nI (swN (fun k => safS fo fl pl ld k r) (decide (¬ u = 0)) v.toNatClampNeg d).1 else mo)])), (rg, .inr (1, [.ref ro, .ref rl, .int pl])), (ro, .inl (cI, 4, .inl fo)), (rl, .inl (cI, 28, .inl (sh fl)))] H) A) (cX (fun E => E = xIAE ∧ k1 (inR v 1 8) = 1) (fun H => va_P D vwCl [(x, .inr (2, [.ref rg, .ref tr, .ref pn, .int (nI d), .int (nI r), .int ld, .int li, .int tl, .int mo])), (rg, .inr (1, [.ref ro, .ref rl, .int pl])), (ro, .inl (cI, 4, .inl fo)), (rl, .inl (cI, 28, .inl (sh fl)))] H) A) ([.ref x, .int v, .int u]).toArray s 1 6 A) (F0 m 33 ls []) := by
        intro n
        induction n with
        | zero =>
          intro k dk H locs ls hn hdk hG hl hP hD hS
          have hG1 : (swN (fun k => safS fo fl pl ld k r) (decide (¬ u = 0)) v.toNatClampNeg d).1 = k := by rw [← hG.1]; rfl
          have hG2 : (swN (fun k => safS fo fl pl ld k r) (decide (¬ u = 0)) v.toNatClampNeg d).2 = dk := by rw [← hG.2]; rfl
          refine lv_iload hx hb dX2_swing_33 (lv_at hl 0 rfl) ?_
          refine lv_iload_n hx hb dX2_swing_35 rfl (lv_at hl 3 rfl) ?_
          refine lv_icmp_ge (tgt := 83) hx hb dX2_swing_36 (by decide) (fun _ => ?_) (fun c_23 => absurd (by rw [show k = kv by omega]; exact Int32.le_refl _) c_23)
          refine lv_aload_n hx hb dX2_swing_83 rfl (lv_at hl 2 rfl) ?_
          refine lv_iload hx hb dX2_swing_84 (lv_at hl 0 rfl) ?_
          have hPc := hP.sub (ws' := [(x, .inr (2, [.ref rg, .ref tr, .ref pn, .int (nI dk), .int (nI r), .int ld, .int li, .int tl, .int mo]))]) [0] rfl
          have hDc : va_D (fun q : Nat => L0 ≤ q) [(x, .inr (2, [.ref rg, .ref tr, .ref pn, .int (nI dk), .int (nI r), .int ld, .int li, .int tl, .int mo]))] := (hD.sub (ws' := [(x, .inr (2, [.ref rg, .ref tr, .ref pn, .int (nI dk), .int (nI r), .int ld, .int li, .int tl, .int mo]))]) [0] (by decide) rfl).weaken (fun _ z9 _ h9 => hAL _ h9)
          have hKc := hK.sub (tys' := []) [] rfl
          refine c_callB (va_runV (As := [.int (nI k)]) (rest := []) ⟨hx, hb, hml, hown, hts⟩ (k_countMoves l D L0 x rg tr pn dk r ld li tl mo (nI k)) (cwV 1 hts gX2_swing_X2_countMoves rfl rfl rfl (by decide +kernel) ⟨Nat.le_of_ble_eq_true rfl, Nat.le_of_ble_eq_true rfl⟩) ⟨cP_blind, va_recv hKc hPc (ci := 2) (q0 := 0) rfl rfl, cP_of hPc hKc hDc (kE_at hE0 hAL hS)⟩ rfl rfl hl.1 rfl (lv_room (Nat.le_of_ble_eq_true rfl)) dX2_swing_86 ⟨Nat.le_of_ble_eq_true rfl, Nat.le_of_ble_eq_true rfl⟩) hS (fun z9 _ ⟨k9, e9, h9⟩ => (hD.sub (ws' := [(x, .inr (2, [.ref rg, .ref tr, .ref pn, .int (nI dk), .int (nI r), .int ld, .int li, .int tl, .int mo]))]) [0] (by decide) rfl).2 k9 (z9, e9) h9) (fun z9 ⟨k9, e9, h9⟩ => (hD.sub (ws' := [(x, .inr (2, [.ref rg, .ref tr, .ref pn, .int (nI dk), .int (nI r), .int ld, .int li, .int tl, .int mo]))]) [0] (by decide) rfl).2 k9 (z9, e9) h9) (fun H1 locs hB hz1 hk1 hS => ?_)
          obtain ⟨hP, hD⟩ := c_join (ws' := [(x, .inr (2, [.ref rg, .ref tr, .ref pn, .int (nI dk), .int (nI r), .int ld, .int li, .int tl, .int (if 0 < ld then mo + nI k else mo)])), (rg, .inr (1, [.ref ro, .ref rl, .int pl])), (ro, .inl (cI, 4, .inl fo)), (rl, .inl (cI, 28, .inl (sh fl)))]) (wr := [(rg, .inr (1, [.ref ro, .ref rl, .int pl])), (ro, .inl (cI, 4, .inl fo)), (rl, .inl (cI, 28, .inl (sh fl)))]) (w1 := [(x, .inr (2, [.ref rg, .ref tr, .ref pn, .int (nI dk), .int (nI r), .int ld, .int li, .int tl, .int (if 0 < ld then mo + nI k else mo)]))]) hP hD [0] [1, 2, 3] [3, 0, 1, 2] rfl rfl (by decide) (by decide) hk1 hB rfl rfl rfl (by decide)
          generalize H1 = H at hP hS ⊢
          show W _ _ _ _ _ _ _ _ _ _ _ _ _ _ _ (F0 m 89 ls [])
          rw [← hG2] at hP
          rw [← hG1] at hP
          refine lv_iload hx hb dX2_swing_89 (lv_at hl 0 rfl) ?_
          refine vx_ret ?_
          refine W.widen (k := 1) (n := 6) (Nat.le_of_ble_eq_true rfl) (Nat.le_of_ble_eq_true rfl) ?_
          exact W.iret (v := (nI k)) hx hb hRt (fun t ht hW => ⟨⟨by rw [← hG1], by rw [ht]; exact ⟨k1_yes hp, hP⟩⟩, hS.F ht⟩) hS.2.2 dX2_swing_91
        | succ n ih =>
          intro k dk H locs ls hn hdk hG hl hP hD hS
          refine lv_iload hx hb dX2_swing_33 (lv_at hl 0 rfl) ?_
          refine lv_iload_n hx hb dX2_swing_35 rfl (lv_at hl 3 rfl) ?_
          refine lv_icmp_ge (tgt := 83) hx hb dX2_swing_36 (by decide) (fun c_24 => absurd c_24 (nI_ge (by omega) (by omega))) (fun _ => ?_)
          refine lv_aload_n hx hb dX2_swing_39 rfl (lv_at hl 2 rfl) ?_
          refine va_get (D := D) (ci := 2) (v := .ref rg) (C := RX2) (T := TX2) (N := 9) hx hb hts hiX2 hown hK hP 0 rfl rfl 0 (by decide) (hts (.fieldLink RX2 12 "CraneReach" "rig" "LCraneReach$Rig;") (by decide +kernel)) (fun _ h9 => h9) rfl dX2_swing_40 ?_
          refine lv_aload_n hx hb dX2_swing_43 rfl (lv_at hl 2 rfl) ?_
          refine va_get (D := D) (ci := 2) (v := .int ld) (C := RX2) (T := TX2) (N := 9) hx hb hts hiX2 hown hK hP 0 rfl rfl 5 (by decide) (hts (.fieldLink RX2 48 "CraneReach" "load" "I") (by decide +kernel)) (fun _ h9 => h9) rfl dX2_swing_44 ?_
          refine lv_aload_n hx hb dX2_swing_47 rfl (lv_at hl 2 rfl) ?_
          refine va_get (D := D) (ci := 2) (v := .int (nI dk)) (C := RX2) (T := TX2) (N := 9) hx hb hts hiX2 hown hK hP 0 rfl rfl 3 (by decide) (hts (.fieldLink RX2 98 "CraneReach" "direction" "I") (by decide +kernel)) (fun _ h9 => h9) rfl dX2_swing_48 ?_
          refine lv_iload_n hx hb dX2_swing_51 rfl (lv_at hl 1 rfl) ?_
          have hPc := hP.sub (ws' := []) [] rfl
          have hDc : va_D (fun q : Nat => L0 ≤ q) [] := (hD.sub (ws' := []) [] (by decide) rfl).weaken (fun _ z9 _ h9 => hAL _ h9)
          have hKc := hK.sub (tys' := []) [] rfl
          refine c_callR (va_runS (As := [.int (nI dk), .int 1]) (rest := [.int ld, .ref rg]) ⟨hx, hb, hml, hown, hts⟩ (k_turned l D L0 (nI dk) 1) (va_cwS 2 hts gX2_swing_X2_turned rfl rfl rfl (by decide +kernel) ⟨Nat.le_of_ble_eq_true rfl, Nat.le_of_ble_eq_true rfl⟩) ⟨cP_blind, cP_of hPc hKc hDc (kE_at hE0 hAL hS)⟩ rfl rfl hl.1 rfl (lv_room (Nat.le_of_ble_eq_true rfl)) dX2_swing_52 ⟨Nat.le_of_ble_eq_true rfl, Nat.le_of_ble_eq_true rfl⟩) ?_
          show W _ _ _ _ _ _ _ _ _ _ _ _ _ _ _ (F0 m 55 ls [.int (tnI (nI dk) 1), .int ld, .ref rg])
          refine c_top (show tnI (nI dk) 1 = nI (swX (decide (¬ u = 0)) dk) from htu dk hdk) ?_
          refine lv_aload_n hx hb dX2_swing_55 rfl (lv_at hl 2 rfl) ?_
          refine va_get (D := D) (ci := 2) (v := .int (nI r)) (C := RX2) (T := TX2) (N := 9) hx hb hts hiX2 hown hK hP 0 rfl rfl 4 (by decide) (hts (.fieldLink RX2 26 "CraneReach" "reach" "I") (by decide +kernel)) (fun _ h9 => h9) rfl dX2_swing_56 ?_
          have hPc := hP.sub (ws' := [(rg, .inr (1, [.ref ro, .ref rl, .int pl])), (ro, .inl (cI, 4, .inl fo)), (rl, .inl (cI, 28, .inl (sh fl)))]) [1, 2, 3] rfl
          have hDc : va_D (fun q : Nat => L0 ≤ q) [(rg, .inr (1, [.ref ro, .ref rl, .int pl])), (ro, .inl (cI, 4, .inl fo)), (rl, .inl (cI, 28, .inl (sh fl)))] := (hD.sub (ws' := [(rg, .inr (1, [.ref ro, .ref rl, .int pl])), (ro, .inl (cI, 4, .inl fo)), (rl, .inl (cI, 28, .inl (sh fl)))]) [1, 2, 3] (by decide) rfl).weaken (fun _ z9 _ h9 => hAL _ h9)
          have hKc := hK.sub (tys' := [(cI, .int)]) [0] rfl
          refine c_callR (va_runV (As := [.int ld, .int (nI (swX (decide (¬ u = 0)) dk)), .int (nI r)]) (rest := []) ⟨hx, hb, hml, hown, hts⟩ (k_isSafe l D L0 cI rg ro rl pl fo fl (swX (decide (¬ u = 0)) dk) r ld swX_lt hr) (cwV 3 hts gX2_swing_X1_isSafe rfl rfl rfl (by decide +kernel) ⟨Nat.le_of_ble_eq_true rfl, Nat.le_of_ble_eq_true rfl⟩) ⟨cP_blind, va_recv hKc hPc (ci := 1) (q0 := 0) rfl rfl, cP_of hPc hKc hDc (kE_at hE0 hAL hS)⟩ rfl rfl hl.1 rfl (lv_room (Nat.le_of_ble_eq_true rfl)) dX2_swing_59 ⟨Nat.le_of_ble_eq_true rfl, Nat.le_of_ble_eq_true rfl⟩) ?_
          show W _ _ _ _ _ _ _ _ _ _ _ _ _ _ _ (F0 m 62 ls [.int (bI (safS fo fl pl ld (swX (decide (¬ u = 0)) dk) r))])
          obtain ⟨b_25, hbv_26⟩ : ∃ z : Bool, z = safS fo fl pl ld (swX (decide (¬ u = 0)) dk) r := ⟨_, rfl⟩
          refine c_top (show bI (safS fo fl pl ld (swX (decide (¬ u = 0)) dk) r) = bI b_25 from by rw [hbv_26]) ?_
          refine lv_if_eq (tgt := 83) hx hb dX2_swing_62 (by decide) (fun c_27 => ?_) (fun c_27 => ?_)
          · have hs : safS fo fl pl ld (swX (decide (¬ u = 0)) dk) r = false := by rw [← hbv_26]; cases b_25 with | false => rfl | true => exact absurd c_27 (by decide)
            have hG1 : (swN (fun k => safS fo fl pl ld k r) (decide (¬ u = 0)) v.toNatClampNeg d).1 = k := by rw [← hG.1, swN, if_neg (by rw [hs]; decide)]; rfl
            have hG2 : (swN (fun k => safS fo fl pl ld k r) (decide (¬ u = 0)) v.toNatClampNeg d).2 = dk := by rw [← hG.2, swN, if_neg (by rw [hs]; decide)]
            refine lv_aload_n hx hb dX2_swing_83 rfl (lv_at hl 2 rfl) ?_
            refine lv_iload hx hb dX2_swing_84 (lv_at hl 0 rfl) ?_
            have hPc := hP.sub (ws' := [(x, .inr (2, [.ref rg, .ref tr, .ref pn, .int (nI dk), .int (nI r), .int ld, .int li, .int tl, .int mo]))]) [0] rfl
            have hDc : va_D (fun q : Nat => L0 ≤ q) [(x, .inr (2, [.ref rg, .ref tr, .ref pn, .int (nI dk), .int (nI r), .int ld, .int li, .int tl, .int mo]))] := (hD.sub (ws' := [(x, .inr (2, [.ref rg, .ref tr, .ref pn, .int (nI dk), .int (nI r), .int ld, .int li, .int tl, .int mo]))]) [0] (by decide) rfl).weaken (fun _ z9 _ h9 => hAL _ h9)
            have hKc := hK.sub (tys' := []) [] rfl
            refine c_callB (va_runV (As := [.int (nI k)]) (rest := []) ⟨hx, hb, hml, hown, hts⟩ (k_countMoves l D L0 x rg tr pn dk r ld li tl mo (nI k)) (cwV 1 hts gX2_swing_X2_countMoves rfl rfl rfl (by decide +kernel) ⟨Nat.le_of_ble_eq_true rfl, Nat.le_of_ble_eq_true rfl⟩) ⟨cP_blind, va_recv hKc hPc (ci := 2) (q0 := 0) rfl rfl, cP_of hPc hKc hDc (kE_at hE0 hAL hS)⟩ rfl rfl hl.1 rfl (lv_room (Nat.le_of_ble_eq_true rfl)) dX2_swing_86 ⟨Nat.le_of_ble_eq_true rfl, Nat.le_of_ble_eq_true rfl⟩) hS (fun z9 _ ⟨k9, e9, h9⟩ => (hD.sub (ws' := [(x, .inr (2, [.ref rg, .ref tr, .ref pn, .int (nI dk), .int (nI r), .int ld, .int li, .int tl, .int mo]))]) [0] (by decide) rfl).2 k9 (z9, e9) h9) (fun z9 ⟨k9, e9, h9⟩ => (hD.sub (ws' := [(x, .inr (2, [.ref rg, .ref tr, .ref pn, .int (nI dk), .int (nI r), .int ld, .int li, .int tl, .int mo]))]) [0] (by decide) rfl).2 k9 (z9, e9) h9) (fun H1 locs hB hz1 hk1 hS => ?_)
            obtain ⟨hP, hD⟩ := c_join (ws' := [(x, .inr (2, [.ref rg, .ref tr, .ref pn, .int (nI dk), .int (nI r), .int ld, .int li, .int tl, .int (if 0 < ld then mo + nI k else mo)])), (rg, .inr (1, [.ref ro, .ref rl, .int pl])), (ro, .inl (cI, 4, .inl fo)), (rl, .inl (cI, 28, .inl (sh fl)))]) (wr := [(rg, .inr (1, [.ref ro, .ref rl, .int pl])), (ro, .inl (cI, 4, .inl fo)), (rl, .inl (cI, 28, .inl (sh fl)))]) (w1 := [(x, .inr (2, [.ref rg, .ref tr, .ref pn, .int (nI dk), .int (nI r), .int ld, .int li, .int tl, .int (if 0 < ld then mo + nI k else mo)]))]) hP hD [0] [1, 2, 3] [3, 0, 1, 2] rfl rfl (by decide) (by decide) hk1 hB rfl rfl rfl (by decide)
            generalize H1 = H at hP hS ⊢
            show W _ _ _ _ _ _ _ _ _ _ _ _ _ _ _ (F0 m 89 ls [])
            rw [← hG2] at hP
            rw [← hG1] at hP
            refine lv_iload hx hb dX2_swing_89 (lv_at hl 0 rfl) ?_
            refine vx_ret ?_
            refine W.widen (k := 1) (n := 6) (Nat.le_of_ble_eq_true rfl) (Nat.le_of_ble_eq_true rfl) ?_
            exact W.iret (v := (nI k)) hx hb hRt (fun t ht hW => ⟨⟨by rw [← hG1], by rw [ht]; exact ⟨k1_yes hp, hP⟩⟩, hS.F ht⟩) hS.2.2 dX2_swing_91
          · have hs : safS fo fl pl ld (swX (decide (¬ u = 0)) dk) r = true := by rw [← hbv_26]; cases b_25 with | true => rfl | false => exact absurd rfl c_27
            refine lv_aload_n hx hb dX2_swing_65 rfl (lv_at hl 2 rfl) ?_
            refine lv_aload_n hx hb dX2_swing_66 rfl (lv_at hl 2 rfl) ?_
            refine va_get (D := D) (ci := 2) (v := .int (nI dk)) (C := RX2) (T := TX2) (N := 9) hx hb hts hiX2 hown hK hP 0 rfl rfl 3 (by decide) (hts (.fieldLink RX2 98 "CraneReach" "direction" "I") (by decide +kernel)) (fun _ h9 => h9) rfl dX2_swing_67 ?_
            refine lv_iload_n hx hb dX2_swing_70 rfl (lv_at hl 1 rfl) ?_
            have hPc := hP.sub (ws' := []) [] rfl
            have hDc : va_D (fun q : Nat => L0 ≤ q) [] := (hD.sub (ws' := []) [] (by decide) rfl).weaken (fun _ z9 _ h9 => hAL _ h9)
            have hKc := hK.sub (tys' := []) [] rfl
            refine c_callR (va_runS (As := [.int (nI dk), .int 1]) (rest := [.ref x]) ⟨hx, hb, hml, hown, hts⟩ (k_turned l D L0 (nI dk) 1) (va_cwS 2 hts gX2_swing_X2_turned rfl rfl rfl (by decide +kernel) ⟨Nat.le_of_ble_eq_true rfl, Nat.le_of_ble_eq_true rfl⟩) ⟨cP_blind, cP_of hPc hKc hDc (kE_at hE0 hAL hS)⟩ rfl rfl hl.1 rfl (lv_room (Nat.le_of_ble_eq_true rfl)) dX2_swing_71 ⟨Nat.le_of_ble_eq_true rfl, Nat.le_of_ble_eq_true rfl⟩) ?_
            show W _ _ _ _ _ _ _ _ _ _ _ _ _ _ _ (F0 m 74 ls [.int (tnI (nI dk) 1), .ref x])
            refine c_top (show tnI (nI dk) 1 = nI (swX (decide (¬ u = 0)) dk) from htu dk hdk) ?_
            refine va_put (D := D) (ci := 2) (v := .int (nI (swX (decide (¬ u = 0)) dk))) (ty := .int) (C := RX2) (T := TX2) (N := 9) hx hb hts hiX2 tyX2 tyX2_ok nmX2 hown hK hP hD hS 0 rfl rfl 3 (by decide) (hts (.fieldLink RX2 98 "CraneReach" "direction" "I") (by decide +kernel)) (fun _ h9 => h9) rfl (by decide +kernel) rfl rfl (Nat.le_of_ble_eq_true rfl) dX2_swing_74 (fun H locs hP hD hS => ?_)
            have hP : va_P D vwCl [(x, .inr (2, [.ref rg, .ref tr, .ref pn, .int (nI (swX (decide (¬ u = 0)) dk)), .int (nI r), .int ld, .int li, .int tl, .int mo])), (rg, .inr (1, [.ref ro, .ref rl, .int pl])), (ro, .inl (cI, 4, .inl fo)), (rl, .inl (cI, 28, .inl (sh fl)))] H := hP
            have hD : va_D A [(x, .inr (2, [.ref rg, .ref tr, .ref pn, .int (nI (swX (decide (¬ u = 0)) dk)), .int (nI r), .int ld, .int li, .int tl, .int mo])), (rg, .inr (1, [.ref ro, .ref rl, .int pl])), (ro, .inl (cI, 4, .inl fo)), (rl, .inl (cI, 28, .inl (sh fl)))] := hD
            refine lv_iinc (v := (nI k) + 1) (lv' := [(4, .int ((nI k) + 1)), (3, .int 1), (0, .ref x), (1, .int (nI kv)), (2, .int u)]) hx hb dX2_swing_77 hl (k := 0) rfl rfl (by decide) rfl (fun ls hl => ?_)
            refine lv_goto (tgt := 33) hx hb dX2_swing_80 (by decide) ?_
            have hl : lv_has ls 5 [(4, .int (nI (k + 1))), (3, .int 1), (0, .ref x), (1, .int (nI kv)), (2, .int u)] := (show (nI k) + 1 = nI (k + 1) from nI_1 k) ▸ hl
            exact ih (k + 1) (swX (decide (¬ u = 0)) dk) _ _ _ (by omega) swX_lt (by rw [swN, if_pos hs] at hG; exact ⟨by rw [← hG.1]; exact (Nat.add_right_comm k 1 _).trans (Nat.add_assoc k _ 1), hG.2⟩) (lv_sub hl [0, 1, 2, 3, 4] rfl) hP hD hS
      refine lv_istore_n (lv' := [(3, .int 1), (0, .ref x), (1, .int (nI kv)), (2, .int u)]) hx hb dX2_swing_29 rfl hl (by decide) rfl (fun ls hl => ?_)
      refine lv_iconst (v := 0) hx hb dX2_swing_30 (by decide) ?_
      refine lv_istore (lv' := [(4, .int 0), (3, .int 1), (0, .ref x), (1, .int (nI kv)), (2, .int u)]) hx hb dX2_swing_31 hl (by decide) rfl (fun ls hl => ?_)
      have hl : lv_has ls 5 [(4, .int (nI 0)), (3, .int 1), (0, .ref x), (1, .int (nI kv)), (2, .int u)] := (show 0 = nI 0 from rfl) ▸ hl
      exact loop kv 0 d _ _ _ (by omega) hd (by rw [hvn]; exact ⟨Nat.zero_add _, rfl⟩) (lv_sub hl [0, 1, 2, 3, 4] rfl) hP hD hS
  · have hn : ¬ inR v 1 8 := fun hp => absurd c_16 (by rw [hbv_15]; simp [hp.1, hp.2, bI])
    exact c_throw (cls := xIAE) (text := "steps must be 1 to 8") hx hb hfl hown (Or.inl rfl) (hts (.classLink RX2 34 xIAE) (by decide +kernel)) (hts (.initialized xIAE) (by decide +kernel)) hE0 hAL (by decide) (fun z hz => hts z (hin38 z hz)) (by decide +kernel) (by decide +kernel) hS hl.1 hml dX2_swing_10 dX2_swing_13 dX2_swing_14 dX2_swing_16 dX2_swing_19 hxt (Nat.le_of_ble_eq_true rfl) (Nat.le_of_ble_eq_true rfl) (Nat.le_of_ble_eq_true rfl) (Nat.le_of_ble_eq_true rfl) hlocks (⟨rfl, k1_no hn⟩) (fun H1 hz hq => c_PX hP hq) (fun q h => h) (fun q h => h) (Nat.le_of_ble_eq_true rfl) (Nat.le_of_ble_eq_true rfl)
set_option maxHeartbeats 4000000 in
set_option maxRecDepth 100000 in
/-- stretch(metres, out) -/
theorem k_stretch (l : Launch) (hfl : l.stackTraces = false) (D : va_G) (L0 : Nat) (cI : ClassId) (x rg tr pn ro rl d r : Nat) (ld li tl mo pl : Int32) (fo fl : Nat → Int32) (v u : Int32) (hd : d < 8) (hr : 3 ≤ r ∧ r ≤ 30) : vx_Met l yX2_stretch wsX2_stretch ({ frames := 6, cells := 1, slots := 6, locals := 86 }) (cP L0 D [(cI, .int)] [(x, .inr (2, [.ref rg, .ref tr, .ref pn, .int (nI d), .int (nI r), .int ld, .int li, .int tl, .int mo])), (rg, .inr (1, [.ref ro, .ref rl, .int pl])), (ro, .inl (cI, 4, .inl fo)), (rl, .inl (cI, 28, .inl (sh fl)))] [.ref x, .int v, .int u]) (cB (some (.int (nI (stN (fun k => safS fo fl pl ld d k) (decide (¬ u = 0)) v.toNatClampNeg r).1))) (fun H => k1 (inR v 1 30) = 0 ∧ va_P D vwCl [(x, .inr (2, [.ref rg, .ref tr, .ref pn, .int (nI d), .int (nI (stN (fun k => safS fo fl pl ld d k) (decide (¬ u = 0)) v.toNatClampNeg r).2), .int ld, .int li, .int tl, .int (if 0 < ld then mo + nI (stN (fun k => safS fo fl pl ld d k) (decide (¬ u = 0)) v.toNatClampNeg r).1 else mo)])), (rg, .inr (1, [.ref ro, .ref rl, .int pl])), (ro, .inl (cI, 4, .inl fo)), (rl, .inl (cI, 28, .inl (sh fl)))] H) (cA [(x, .inr (2, [.ref rg, .ref tr, .ref pn, .int (nI d), .int (nI r), .int ld, .int li, .int tl, .int mo])), (rg, .inr (1, [.ref ro, .ref rl, .int pl])), (ro, .inl (cI, 4, .inl fo)), (rl, .inl (cI, 28, .inl (sh fl)))])) (cX (fun E => E = xIAE ∧ k1 (inR v 1 30) = 1) (fun H => va_P D vwCl [(x, .inr (2, [.ref rg, .ref tr, .ref pn, .int (nI d), .int (nI r), .int ld, .int li, .int tl, .int mo])), (rg, .inr (1, [.ref ro, .ref rl, .int pl])), (ro, .inl (cI, 4, .inl fo)), (rl, .inl (cI, 28, .inl (sh fl)))] H) (cA [(x, .inr (2, [.ref rg, .ref tr, .ref pn, .int (nI d), .int (nI r), .int ld, .int li, .int tl, .int mo])), (rg, .inr (1, [.ref ro, .ref rl, .int pl])), (ro, .inl (cI, 4, .inl fo)), (rl, .inl (cI, 28, .inl (sh fl)))])) 1 6 (cA [(x, .inr (2, [.ref rg, .ref tr, .ref pn, .int (nI d), .int (nI r), .int ld, .int li, .int tl, .int mo])), (rg, .inr (1, [.ref ro, .ref rl, .int pl])), (ro, .inl (cI, 4, .inl fo)), (rl, .inl (cI, 28, .inl (sh fl)))]) := by
  refine vx_ofW (cc := cX2_stretch) (maxL := 5) (ret := (some .int)) (by decide) rfl ?_
  intro p e s m args below meth c s₁ B hml hxt hv
  obtain ⟨rfl, hP, hK, hD0, hE0⟩ := hv
  have hx := B.exec
  have hb := B.bytes
  have hRt := B.returns
  have hts := atoms_spec (ws := wsX2_stretch) B.pre
  have hown : s.vm.findClass RX2 = some m.cls := findClass_of_methodNamed B.named
  have hlocks := B.notSynchronized
  have hAL : ∀ z9 : Nat, cA [(x, .inr (2, [.ref rg, .ref tr, .ref pn, .int (nI d), .int (nI r), .int ld, .int li, .int tl, .int mo])), (rg, .inr (1, [.ref ro, .ref rl, .int pl])), (ro, .inl (cI, 4, .inl fo)), (rl, .inl (cI, 28, .inl (sh fl)))] z9 → L0 ≤ z9 := fun z9 ⟨k9, e9, h9⟩ => hD0.2 k9 (z9, e9) h9
  have hD : va_D (cA [(x, .inr (2, [.ref rg, .ref tr, .ref pn, .int (nI d), .int (nI r), .int ld, .int li, .int tl, .int mo])), (rg, .inr (1, [.ref ro, .ref rl, .int pl])), (ro, .inl (cI, 4, .inl fo)), (rl, .inl (cI, 28, .inl (sh fl)))]) [(x, .inr (2, [.ref rg, .ref tr, .ref pn, .int (nI d), .int (nI r), .int ld, .int li, .int tl, .int mo])), (rg, .inr (1, [.ref ro, .ref rl, .int pl])), (ro, .inl (cI, 4, .inl fo)), (rl, .inl (cI, 28, .inl (sh fl)))] := ⟨hD0.1, fun k9 z9 h9 => cA_of h9⟩
  generalize hAe : cA [(x, .inr (2, [.ref rg, .ref tr, .ref pn, .int (nI d), .int (nI r), .int ld, .int li, .int tl, .int mo])), (rg, .inr (1, [.ref ro, .ref rl, .int pl])), (ro, .inl (cI, 4, .inl fo)), (rl, .inl (cI, 28, .inl (sh fl)))] = A at hD hAL ⊢
  have hS : va_S A s.heap s.heap [] := va_S.rf
  have hiX2 : ∀ w ∈ u_ws RX2 TX2 9, w ∈ wsX2_stretch := by decide +kernel
  have hl := lv_entry ([.ref x, .int v, .int u]) (n := 5) (Nat.le_of_ble_eq_true rfl)
  rw [lg_entry_eq]
  generalize (lg_sl ([.ref x, .int v, .int u]) ++ List.replicate (5 - (lg_sl ([.ref x, .int v, .int u])).length) Slot.unset).toArray = ls at hl ⊢
  have hl : lv_has ls 5 [(0, .ref x), (1, .int v), (2, .int u)] := hl
  have hin38 : ∀ z ∈ (vx_atS RX2 38 xIAE kSup).filter goodWord, z ∈ wsX2_stretch := by decide +kernel
  refine lv_iload_n hx hb dX2_stretch_0 rfl (lv_at hl 1 rfl) ?_
  refine lv_iconst (v := 1) hx hb dX2_stretch_1 (by decide) ?_
  refine lv_bipush (v := 30) hx hb dX2_stretch_2 (by decide) ?_
  have hPc := hP.sub (ws' := []) [] rfl
  have hDc : va_D (fun q : Nat => L0 ≤ q) [] := (hD.sub (ws' := []) [] (by decide) rfl).weaken (fun _ z9 _ h9 => hAL _ h9)
  have hKc := hK.sub (tys' := []) [] rfl
  refine c_callR (va_runS (As := [.int v, .int 1, .int 30]) (rest := []) ⟨hx, hb, hml, hown, hts⟩ (k_isWithin l D L0 v 1 30) (va_cwS 3 hts gX2_stretch_X2_isWithin rfl rfl rfl (by decide +kernel) ⟨Nat.le_of_ble_eq_true rfl, Nat.le_of_ble_eq_true rfl⟩) ⟨cP_blind, cP_of hPc hKc hDc (kE_at hE0 hAL hS)⟩ rfl rfl hl.1 rfl (lv_room (Nat.le_of_ble_eq_true rfl)) dX2_stretch_4 ⟨Nat.le_of_ble_eq_true rfl, Nat.le_of_ble_eq_true rfl⟩) ?_
  show W _ _ _ _ _ _ _ _ _ _ _ _ _ _ _ (F0 m 7 ls [.int (bI (decide (1 ≤ v) && decide (v ≤ 30)))])
  obtain ⟨b_28, hbv_29⟩ : ∃ z : Bool, z = (decide (1 ≤ v) && decide (v ≤ 30)) := ⟨_, rfl⟩
  refine c_top (show bI (decide (1 ≤ v) && decide (v ≤ 30)) = bI b_28 from by rw [hbv_29]) ?_
  refine lv_if_ne (tgt := 20) hx hb dX2_stretch_7 (by decide) (fun c_30 => ?_) (fun c_30 => ?_)
  · have hp : inR v 1 30 := by cases b_28 with | true => simpa using hbv_29.symm | false => exact absurd rfl c_30
    obtain ⟨kv, hkv, hv⟩ := inR_n1 (n := 30) (by decide) hp
    have hl : lv_has ls 5 [(0, .ref x), (1, .int (nI kv)), (2, .int u)] := (show v = nI kv from hv) ▸ hl
    have hvn : v.toNatClampNeg = kv := by rw [hv, nI_clamp (by omega)]
    refine lv_iload_n hx hb dX2_stretch_20 rfl (lv_at hl 2 rfl) ?_
    refine lv_if_eq (tgt := 28) hx hb dX2_stretch_21 (by decide) (fun c_31 => ?_) (fun c_31 => ?_)
    · refine lv_iconst (v := -1) hx hb dX2_stretch_28 (by decide) ?_
      have htu : ∀ z, 3 ≤ z ∧ z ≤ 30 → nI z + (-1) = nI (stX (decide (¬ u = 0)) z) := fun z hz => by rw [show nI z + (-1) = nI (z - 1) from by have h := pk_m1 (z - 1); rw [Nat.sub_add_cancel (by omega)] at h; exact h]; unfold stX; simp [c_31]
      have hlt : ∀ z, 3 ≤ z ∧ z ≤ 30 → stX (decide (¬ u = 0)) z < 100 := fun z hz => by unfold stX; split <;> omega
      have loop : ∀ (n : Nat) (k : Nat) (rk : Nat) (H : Heap) (locs : List Loc) (ls : Array Slot), k + n = kv → (3 ≤ rk ∧ rk ≤ 30) → (k + (stN (fun k => safS fo fl pl ld d k) (decide (¬ u = 0)) n rk).1 = (stN (fun k => safS fo fl pl ld d k) (decide (¬ u = 0)) v.toNatClampNeg r).1 ∧ (stN (fun k => safS fo fl pl ld d k) (decide (¬ u = 0)) n rk).2 = (stN (fun k => safS fo fl pl ld d k) (decide (¬ u = 0)) v.toNatClampNeg r).2) → lv_has ls 5 [(4, .int (nI k)), (3, .int (-1)), (0, .ref x), (1, .int (nI kv)), (2, .int u)] → va_P D vwCl [(x, .inr (2, [.ref rg, .ref tr, .ref pn, .int (nI d), .int (nI rk), .int ld, .int li, .int tl, .int mo])), (rg, .inr (1, [.ref ro, .ref rl, .int pl])), (ro, .inl (cI, 4, .inl fo)), (rl, .inl (cI, 28, .inl (sh fl)))] H → va_D A [(x, .inr (2, [.ref rg, .ref tr, .ref pn, .int (nI d), .int (nI rk), .int ld, .int li, .int tl, .int mo])), (rg, .inr (1, [.ref ro, .ref rl, .int pl])), (ro, .inl (cI, 4, .inl fo)), (rl, .inl (cI, 28, .inl (sh fl)))] → va_S A s.heap H locs → W p l e (headSpec wsX2_stretch ({ frames := 6, cells := 1, slots := 6, locals := 86 })).room s m ([.ref x, .int v, .int u]).toArray below meth c H locs 0 0 (vx_MQ below (cB (some (.int (nI (stN (fun k => safS fo fl pl ld d k) (decide (¬ u = 0)) v.toNatClampNeg r).1))) (fun H => k1 (inR v 1 30) = 0 ∧ va_P D vwCl [(x, .inr (2, [.ref rg, .ref tr, .ref pn, .int (nI d), .int (nI (stN (fun k => safS fo fl pl ld d k) (decide (¬ u = 0)) v.toNatClampNeg r).2), .int ld, .int li, .int tl, .int (if 0 < ld then mo + nI (stN (fun k => safS fo fl pl ld d k) (decide (¬ u = 0)) v.toNatClampNeg r).1 else mo)])), (rg, .inr (1, [.ref ro, .ref rl, .int pl])), (ro, .inl (cI, 4, .inl fo)), (rl, .inl (cI, 28, .inl (sh fl)))] H) A) (cX (fun E => E = xIAE ∧ k1 (inR v 1 30) = 1) (fun H => va_P D vwCl [(x, .inr (2, [.ref rg, .ref tr, .ref pn, .int (nI d), .int (nI r), .int ld, .int li, .int tl, .int mo])), (rg, .inr (1, [.ref ro, .ref rl, .int pl])), (ro, .inl (cI, 4, .inl fo)), (rl, .inl (cI, 28, .inl (sh fl)))] H) A) ([.ref x, .int v, .int u]).toArray s 1 6 A) (F0 m 33 ls []) := by
        intro n
        induction n with
        | zero =>
          intro k rk H locs ls hn hrk hG hl hP hD hS
          have hG1 : (stN (fun k => safS fo fl pl ld d k) (decide (¬ u = 0)) v.toNatClampNeg r).1 = k := by rw [← hG.1]; rfl
          have hG2 : (stN (fun k => safS fo fl pl ld d k) (decide (¬ u = 0)) v.toNatClampNeg r).2 = rk := by rw [← hG.2]; rfl
          refine lv_iload hx hb dX2_stretch_33 (lv_at hl 0 rfl) ?_
          refine lv_iload_n hx hb dX2_stretch_35 rfl (lv_at hl 3 rfl) ?_
          refine lv_icmp_ge (tgt := 91) hx hb dX2_stretch_36 (by decide) (fun _ => ?_) (fun c_32 => absurd (by rw [show k = kv by omega]; exact Int32.le_refl _) c_32)
          refine lv_aload_n hx hb dX2_stretch_91 rfl (lv_at hl 2 rfl) ?_
          refine lv_iload hx hb dX2_stretch_92 (lv_at hl 0 rfl) ?_
          have hPc := hP.sub (ws' := [(x, .inr (2, [.ref rg, .ref tr, .ref pn, .int (nI d), .int (nI rk), .int ld, .int li, .int tl, .int mo]))]) [0] rfl
          have hDc : va_D (fun q : Nat => L0 ≤ q) [(x, .inr (2, [.ref rg, .ref tr, .ref pn, .int (nI d), .int (nI rk), .int ld, .int li, .int tl, .int mo]))] := (hD.sub (ws' := [(x, .inr (2, [.ref rg, .ref tr, .ref pn, .int (nI d), .int (nI rk), .int ld, .int li, .int tl, .int mo]))]) [0] (by decide) rfl).weaken (fun _ z9 _ h9 => hAL _ h9)
          have hKc := hK.sub (tys' := []) [] rfl
          refine c_callB (va_runV (As := [.int (nI k)]) (rest := []) ⟨hx, hb, hml, hown, hts⟩ (k_countMoves l D L0 x rg tr pn d rk ld li tl mo (nI k)) (cwV 1 hts gX2_stretch_X2_countMoves rfl rfl rfl (by decide +kernel) ⟨Nat.le_of_ble_eq_true rfl, Nat.le_of_ble_eq_true rfl⟩) ⟨cP_blind, va_recv hKc hPc (ci := 2) (q0 := 0) rfl rfl, cP_of hPc hKc hDc (kE_at hE0 hAL hS)⟩ rfl rfl hl.1 rfl (lv_room (Nat.le_of_ble_eq_true rfl)) dX2_stretch_94 ⟨Nat.le_of_ble_eq_true rfl, Nat.le_of_ble_eq_true rfl⟩) hS (fun z9 _ ⟨k9, e9, h9⟩ => (hD.sub (ws' := [(x, .inr (2, [.ref rg, .ref tr, .ref pn, .int (nI d), .int (nI rk), .int ld, .int li, .int tl, .int mo]))]) [0] (by decide) rfl).2 k9 (z9, e9) h9) (fun z9 ⟨k9, e9, h9⟩ => (hD.sub (ws' := [(x, .inr (2, [.ref rg, .ref tr, .ref pn, .int (nI d), .int (nI rk), .int ld, .int li, .int tl, .int mo]))]) [0] (by decide) rfl).2 k9 (z9, e9) h9) (fun H1 locs hB hz1 hk1 hS => ?_)
          obtain ⟨hP, hD⟩ := c_join (ws' := [(x, .inr (2, [.ref rg, .ref tr, .ref pn, .int (nI d), .int (nI rk), .int ld, .int li, .int tl, .int (if 0 < ld then mo + nI k else mo)])), (rg, .inr (1, [.ref ro, .ref rl, .int pl])), (ro, .inl (cI, 4, .inl fo)), (rl, .inl (cI, 28, .inl (sh fl)))]) (wr := [(rg, .inr (1, [.ref ro, .ref rl, .int pl])), (ro, .inl (cI, 4, .inl fo)), (rl, .inl (cI, 28, .inl (sh fl)))]) (w1 := [(x, .inr (2, [.ref rg, .ref tr, .ref pn, .int (nI d), .int (nI rk), .int ld, .int li, .int tl, .int (if 0 < ld then mo + nI k else mo)]))]) hP hD [0] [1, 2, 3] [3, 0, 1, 2] rfl rfl (by decide) (by decide) hk1 hB rfl rfl rfl (by decide)
          generalize H1 = H at hP hS ⊢
          show W _ _ _ _ _ _ _ _ _ _ _ _ _ _ _ (F0 m 97 ls [])
          rw [← hG2] at hP
          rw [← hG1] at hP
          refine lv_iload hx hb dX2_stretch_97 (lv_at hl 0 rfl) ?_
          refine vx_ret ?_
          refine W.widen (k := 1) (n := 6) (Nat.le_of_ble_eq_true rfl) (Nat.le_of_ble_eq_true rfl) ?_
          exact W.iret (v := (nI k)) hx hb hRt (fun t ht hW => ⟨⟨by rw [← hG1], by rw [ht]; exact ⟨k1_yes hp, hP⟩⟩, hS.F ht⟩) hS.2.2 dX2_stretch_99
        | succ n ih =>
          intro k rk H locs ls hn hrk hG hl hP hD hS
          refine lv_iload hx hb dX2_stretch_33 (lv_at hl 0 rfl) ?_
          refine lv_iload_n hx hb dX2_stretch_35 rfl (lv_at hl 3 rfl) ?_
          refine lv_icmp_ge (tgt := 91) hx hb dX2_stretch_36 (by decide) (fun c_33 => absurd c_33 (nI_ge (by omega) (by omega))) (fun _ => ?_)
          refine lv_aload_n hx hb dX2_stretch_39 rfl (lv_at hl 2 rfl) ?_
          refine va_get (D := D) (ci := 2) (v := .int (nI rk)) (C := RX2) (T := TX2) (N := 9) hx hb hts hiX2 hown hK hP 0 rfl rfl 4 (by decide) (hts (.fieldLink RX2 26 "CraneReach" "reach" "I") (by decide +kernel)) (fun _ h9 => h9) rfl dX2_stretch_40 ?_
          refine lv_iload_n hx hb dX2_stretch_43 rfl (lv_at hl 1 rfl) ?_
          refine lv_iadd hx hb dX2_stretch_44 ?_
          refine c_top (show (nI rk) + (-1) = nI (stX (decide (¬ u = 0)) rk) from htu rk hrk) ?_
          have hxl := hlt rk hrk
          have hPc := hP.sub (ws' := []) [] rfl
          have hDc : va_D (fun q : Nat => L0 ≤ q) [] := (hD.sub (ws' := []) [] (by decide) rfl).weaken (fun _ z9 _ h9 => hAL _ h9)
          have hKc := hK.sub (tys' := []) [] rfl
          refine c_callR (va_runS (As := [.int (nI (stX (decide (¬ u = 0)) rk))]) (rest := []) ⟨hx, hb, hml, hown, hts⟩ (k_isReach l D L0 (nI (stX (decide (¬ u = 0)) rk))) (va_cwS 1 hts gX2_stretch_X2_isReach rfl rfl rfl (by decide +kernel) ⟨Nat.le_of_ble_eq_true rfl, Nat.le_of_ble_eq_true rfl⟩) ⟨cP_blind, cP_of hPc hKc hDc (kE_at hE0 hAL hS)⟩ rfl rfl hl.1 rfl (lv_room (Nat.le_of_ble_eq_true rfl)) dX2_stretch_45 ⟨Nat.le_of_ble_eq_true rfl, Nat.le_of_ble_eq_true rfl⟩) ?_
          show W _ _ _ _ _ _ _ _ _ _ _ _ _ _ _ (F0 m 48 ls [.int (bI (decide (3 ≤ nI (stX (decide (¬ u = 0)) rk)) && decide (nI (stX (decide (¬ u = 0)) rk) ≤ 30)))])
          by_cases cr : 3 ≤ stX (decide (¬ u = 0)) rk ∧ stX (decide (¬ u = 0)) rk ≤ 30
          · refine c_top (show bI (decide (3 ≤ nI (stX (decide (¬ u = 0)) rk)) && decide (nI (stX (decide (¬ u = 0)) rk) ≤ 30)) = 1 from isR_yes cr) ?_
            refine lv_if_eq (tgt := 91) hx hb dX2_stretch_48 (by decide) (fun c_35 => absurd c_35 (by decide)) (fun _ => ?_)
            refine lv_aload_n hx hb dX2_stretch_51 rfl (lv_at hl 2 rfl) ?_
            refine va_get (D := D) (ci := 2) (v := .ref rg) (C := RX2) (T := TX2) (N := 9) hx hb hts hiX2 hown hK hP 0 rfl rfl 0 (by decide) (hts (.fieldLink RX2 12 "CraneReach" "rig" "LCraneReach$Rig;") (by decide +kernel)) (fun _ h9 => h9) rfl dX2_stretch_52 ?_
            refine lv_aload_n hx hb dX2_stretch_55 rfl (lv_at hl 2 rfl) ?_
            refine va_get (D := D) (ci := 2) (v := .int ld) (C := RX2) (T := TX2) (N := 9) hx hb hts hiX2 hown hK hP 0 rfl rfl 5 (by decide) (hts (.fieldLink RX2 48 "CraneReach" "load" "I") (by decide +kernel)) (fun _ h9 => h9) rfl dX2_stretch_56 ?_
            refine lv_aload_n hx hb dX2_stretch_59 rfl (lv_at hl 2 rfl) ?_
            refine va_get (D := D) (ci := 2) (v := .int (nI d)) (C := RX2) (T := TX2) (N := 9) hx hb hts hiX2 hown hK hP 0 rfl rfl 3 (by decide) (hts (.fieldLink RX2 98 "CraneReach" "direction" "I") (by decide +kernel)) (fun _ h9 => h9) rfl dX2_stretch_60 ?_
            refine lv_aload_n hx hb dX2_stretch_63 rfl (lv_at hl 2 rfl) ?_
            refine va_get (D := D) (ci := 2) (v := .int (nI rk)) (C := RX2) (T := TX2) (N := 9) hx hb hts hiX2 hown hK hP 0 rfl rfl 4 (by decide) (hts (.fieldLink RX2 26 "CraneReach" "reach" "I") (by decide +kernel)) (fun _ h9 => h9) rfl dX2_stretch_64 ?_
            refine lv_iload_n hx hb dX2_stretch_67 rfl (lv_at hl 1 rfl) ?_
            refine lv_iadd hx hb dX2_stretch_68 ?_
            refine c_top (show (nI rk) + (-1) = nI (stX (decide (¬ u = 0)) rk) from htu rk hrk) ?_
            have hPc := hP.sub (ws' := [(rg, .inr (1, [.ref ro, .ref rl, .int pl])), (ro, .inl (cI, 4, .inl fo)), (rl, .inl (cI, 28, .inl (sh fl)))]) [1, 2, 3] rfl
            have hDc : va_D (fun q : Nat => L0 ≤ q) [(rg, .inr (1, [.ref ro, .ref rl, .int pl])), (ro, .inl (cI, 4, .inl fo)), (rl, .inl (cI, 28, .inl (sh fl)))] := (hD.sub (ws' := [(rg, .inr (1, [.ref ro, .ref rl, .int pl])), (ro, .inl (cI, 4, .inl fo)), (rl, .inl (cI, 28, .inl (sh fl)))]) [1, 2, 3] (by decide) rfl).weaken (fun _ z9 _ h9 => hAL _ h9)
            have hKc := hK.sub (tys' := [(cI, .int)]) [0] rfl
            refine c_callR (va_runV (As := [.int ld, .int (nI d), .int (nI (stX (decide (¬ u = 0)) rk))]) (rest := []) ⟨hx, hb, hml, hown, hts⟩ (k_isSafe l D L0 cI rg ro rl pl fo fl d (stX (decide (¬ u = 0)) rk) ld hd cr) (cwV 3 hts gX2_stretch_X1_isSafe rfl rfl rfl (by decide +kernel) ⟨Nat.le_of_ble_eq_true rfl, Nat.le_of_ble_eq_true rfl⟩) ⟨cP_blind, va_recv hKc hPc (ci := 1) (q0 := 0) rfl rfl, cP_of hPc hKc hDc (kE_at hE0 hAL hS)⟩ rfl rfl hl.1 rfl (lv_room (Nat.le_of_ble_eq_true rfl)) dX2_stretch_69 ⟨Nat.le_of_ble_eq_true rfl, Nat.le_of_ble_eq_true rfl⟩) ?_
            show W _ _ _ _ _ _ _ _ _ _ _ _ _ _ _ (F0 m 72 ls [.int (bI (safS fo fl pl ld d (stX (decide (¬ u = 0)) rk)))])
            obtain ⟨b_36, hbv_37⟩ : ∃ z : Bool, z = safS fo fl pl ld d (stX (decide (¬ u = 0)) rk) := ⟨_, rfl⟩
            refine c_top (show bI (safS fo fl pl ld d (stX (decide (¬ u = 0)) rk)) = bI b_36 from by rw [hbv_37]) ?_
            refine lv_if_eq (tgt := 91) hx hb dX2_stretch_72 (by decide) (fun c_38 => ?_) (fun c_38 => ?_)
            · have hs : safS fo fl pl ld d (stX (decide (¬ u = 0)) rk) = false := by rw [← hbv_37]; cases b_36 with | false => rfl | true => exact absurd c_38 (by decide)
              have hG1 : (stN (fun k => safS fo fl pl ld d k) (decide (¬ u = 0)) v.toNatClampNeg r).1 = k := by rw [← hG.1, stN, if_neg (fun z => by rw [hs] at z; exact absurd z.2 (by decide))]; rfl
              have hG2 : (stN (fun k => safS fo fl pl ld d k) (decide (¬ u = 0)) v.toNatClampNeg r).2 = rk := by rw [← hG.2, stN, if_neg (fun z => by rw [hs] at z; exact absurd z.2 (by decide))]
              refine lv_aload_n hx hb dX2_stretch_91 rfl (lv_at hl 2 rfl) ?_
              refine lv_iload hx hb dX2_stretch_92 (lv_at hl 0 rfl) ?_
              have hPc := hP.sub (ws' := [(x, .inr (2, [.ref rg, .ref tr, .ref pn, .int (nI d), .int (nI rk), .int ld, .int li, .int tl, .int mo]))]) [0] rfl
              have hDc : va_D (fun q : Nat => L0 ≤ q) [(x, .inr (2, [.ref rg, .ref tr, .ref pn, .int (nI d), .int (nI rk), .int ld, .int li, .int tl, .int mo]))] := (hD.sub (ws' := [(x, .inr (2, [.ref rg, .ref tr, .ref pn, .int (nI d), .int (nI rk), .int ld, .int li, .int tl, .int mo]))]) [0] (by decide) rfl).weaken (fun _ z9 _ h9 => hAL _ h9)
              have hKc := hK.sub (tys' := []) [] rfl
              refine c_callB (va_runV (As := [.int (nI k)]) (rest := []) ⟨hx, hb, hml, hown, hts⟩ (k_countMoves l D L0 x rg tr pn d rk ld li tl mo (nI k)) (cwV 1 hts gX2_stretch_X2_countMoves rfl rfl rfl (by decide +kernel) ⟨Nat.le_of_ble_eq_true rfl, Nat.le_of_ble_eq_true rfl⟩) ⟨cP_blind, va_recv hKc hPc (ci := 2) (q0 := 0) rfl rfl, cP_of hPc hKc hDc (kE_at hE0 hAL hS)⟩ rfl rfl hl.1 rfl (lv_room (Nat.le_of_ble_eq_true rfl)) dX2_stretch_94 ⟨Nat.le_of_ble_eq_true rfl, Nat.le_of_ble_eq_true rfl⟩) hS (fun z9 _ ⟨k9, e9, h9⟩ => (hD.sub (ws' := [(x, .inr (2, [.ref rg, .ref tr, .ref pn, .int (nI d), .int (nI rk), .int ld, .int li, .int tl, .int mo]))]) [0] (by decide) rfl).2 k9 (z9, e9) h9) (fun z9 ⟨k9, e9, h9⟩ => (hD.sub (ws' := [(x, .inr (2, [.ref rg, .ref tr, .ref pn, .int (nI d), .int (nI rk), .int ld, .int li, .int tl, .int mo]))]) [0] (by decide) rfl).2 k9 (z9, e9) h9) (fun H1 locs hB hz1 hk1 hS => ?_)
              obtain ⟨hP, hD⟩ := c_join (ws' := [(x, .inr (2, [.ref rg, .ref tr, .ref pn, .int (nI d), .int (nI rk), .int ld, .int li, .int tl, .int (if 0 < ld then mo + nI k else mo)])), (rg, .inr (1, [.ref ro, .ref rl, .int pl])), (ro, .inl (cI, 4, .inl fo)), (rl, .inl (cI, 28, .inl (sh fl)))]) (wr := [(rg, .inr (1, [.ref ro, .ref rl, .int pl])), (ro, .inl (cI, 4, .inl fo)), (rl, .inl (cI, 28, .inl (sh fl)))]) (w1 := [(x, .inr (2, [.ref rg, .ref tr, .ref pn, .int (nI d), .int (nI rk), .int ld, .int li, .int tl, .int (if 0 < ld then mo + nI k else mo)]))]) hP hD [0] [1, 2, 3] [3, 0, 1, 2] rfl rfl (by decide) (by decide) hk1 hB rfl rfl rfl (by decide)
              generalize H1 = H at hP hS ⊢
              show W _ _ _ _ _ _ _ _ _ _ _ _ _ _ _ (F0 m 97 ls [])
              rw [← hG2] at hP
              rw [← hG1] at hP
              refine lv_iload hx hb dX2_stretch_97 (lv_at hl 0 rfl) ?_
              refine vx_ret ?_
              refine W.widen (k := 1) (n := 6) (Nat.le_of_ble_eq_true rfl) (Nat.le_of_ble_eq_true rfl) ?_
              exact W.iret (v := (nI k)) hx hb hRt (fun t ht hW => ⟨⟨by rw [← hG1], by rw [ht]; exact ⟨k1_yes hp, hP⟩⟩, hS.F ht⟩) hS.2.2 dX2_stretch_99
            · have hs : safS fo fl pl ld d (stX (decide (¬ u = 0)) rk) = true := by rw [← hbv_37]; cases b_36 with | true => rfl | false => exact absurd rfl c_38
              refine lv_aload_n hx hb dX2_stretch_75 rfl (lv_at hl 2 rfl) ?_
              refine lv_dup hx hb dX2_stretch_76 rfl ?_
              refine va_get (D := D) (ci := 2) (v := .int (nI rk)) (C := RX2) (T := TX2) (N := 9) hx hb hts hiX2 hown hK hP 0 rfl rfl 4 (by decide) (hts (.fieldLink RX2 26 "CraneReach" "reach" "I") (by decide +kernel)) (fun _ h9 => h9) rfl dX2_stretch_77 ?_
              refine lv_iload_n hx hb dX2_stretch_80 rfl (lv_at hl 1 rfl) ?_
              refine lv_iadd hx hb dX2_stretch_81 ?_
              refine c_top (show (nI rk) + (-1) = nI (stX (decide (¬ u = 0)) rk) from htu rk hrk) ?_
              refine va_put (D := D) (ci := 2) (v := .int (nI (stX (decide (¬ u = 0)) rk))) (ty := .int) (C := RX2) (T := TX2) (N := 9) hx hb hts hiX2 tyX2 tyX2_ok nmX2 hown hK hP hD hS 0 rfl rfl 4 (by decide) (hts (.fieldLink RX2 26 "CraneReach" "reach" "I") (by decide +kernel)) (fun _ h9 => h9) rfl (by decide +kernel) rfl rfl (Nat.le_of_ble_eq_true rfl) dX2_stretch_82 (fun H locs hP hD hS => ?_)
              have hP : va_P D vwCl [(x, .inr (2, [.ref rg, .ref tr, .ref pn, .int (nI d), .int (nI (stX (decide (¬ u = 0)) rk)), .int ld, .int li, .int tl, .int mo])), (rg, .inr (1, [.ref ro, .ref rl, .int pl])), (ro, .inl (cI, 4, .inl fo)), (rl, .inl (cI, 28, .inl (sh fl)))] H := hP
              have hD : va_D A [(x, .inr (2, [.ref rg, .ref tr, .ref pn, .int (nI d), .int (nI (stX (decide (¬ u = 0)) rk)), .int ld, .int li, .int tl, .int mo])), (rg, .inr (1, [.ref ro, .ref rl, .int pl])), (ro, .inl (cI, 4, .inl fo)), (rl, .inl (cI, 28, .inl (sh fl)))] := hD
              refine lv_iinc (v := (nI k) + 1) (lv' := [(4, .int ((nI k) + 1)), (3, .int (-1)), (0, .ref x), (1, .int (nI kv)), (2, .int u)]) hx hb dX2_stretch_85 hl (k := 0) rfl rfl (by decide) rfl (fun ls hl => ?_)
              refine lv_goto (tgt := 33) hx hb dX2_stretch_88 (by decide) ?_
              have hl : lv_has ls 5 [(4, .int (nI (k + 1))), (3, .int (-1)), (0, .ref x), (1, .int (nI kv)), (2, .int u)] := (show (nI k) + 1 = nI (k + 1) from nI_1 k) ▸ hl
              exact ih (k + 1) (stX (decide (¬ u = 0)) rk) _ _ _ (by omega) cr (by rw [stN, if_pos ⟨cr, hs⟩] at hG; exact ⟨by rw [← hG.1]; exact (Nat.add_right_comm k 1 _).trans (Nat.add_assoc k _ 1), hG.2⟩) (lv_sub hl [0, 1, 2, 3, 4] rfl) hP hD hS
          · refine c_top (show bI (decide (3 ≤ nI (stX (decide (¬ u = 0)) rk)) && decide (nI (stX (decide (¬ u = 0)) rk) ≤ 30)) = 0 from isR_no hxl cr) ?_
            refine lv_if_eq (tgt := 91) hx hb dX2_stretch_48 (by decide) (fun _ => ?_) (fun c_34 => absurd (rfl) c_34)
            have hG1 : (stN (fun k => safS fo fl pl ld d k) (decide (¬ u = 0)) v.toNatClampNeg r).1 = k := by rw [← hG.1, stN, if_neg (fun z => cr z.1)]; rfl
            have hG2 : (stN (fun k => safS fo fl pl ld d k) (decide (¬ u = 0)) v.toNatClampNeg r).2 = rk := by rw [← hG.2, stN, if_neg (fun z => cr z.1)]
            refine lv_aload_n hx hb dX2_stretch_91 rfl (lv_at hl 2 rfl) ?_
            refine lv_iload hx hb dX2_stretch_92 (lv_at hl 0 rfl) ?_
            have hPc := hP.sub (ws' := [(x, .inr (2, [.ref rg, .ref tr, .ref pn, .int (nI d), .int (nI rk), .int ld, .int li, .int tl, .int mo]))]) [0] rfl
            have hDc : va_D (fun q : Nat => L0 ≤ q) [(x, .inr (2, [.ref rg, .ref tr, .ref pn, .int (nI d), .int (nI rk), .int ld, .int li, .int tl, .int mo]))] := (hD.sub (ws' := [(x, .inr (2, [.ref rg, .ref tr, .ref pn, .int (nI d), .int (nI rk), .int ld, .int li, .int tl, .int mo]))]) [0] (by decide) rfl).weaken (fun _ z9 _ h9 => hAL _ h9)
            have hKc := hK.sub (tys' := []) [] rfl
            refine c_callB (va_runV (As := [.int (nI k)]) (rest := []) ⟨hx, hb, hml, hown, hts⟩ (k_countMoves l D L0 x rg tr pn d rk ld li tl mo (nI k)) (cwV 1 hts gX2_stretch_X2_countMoves rfl rfl rfl (by decide +kernel) ⟨Nat.le_of_ble_eq_true rfl, Nat.le_of_ble_eq_true rfl⟩) ⟨cP_blind, va_recv hKc hPc (ci := 2) (q0 := 0) rfl rfl, cP_of hPc hKc hDc (kE_at hE0 hAL hS)⟩ rfl rfl hl.1 rfl (lv_room (Nat.le_of_ble_eq_true rfl)) dX2_stretch_94 ⟨Nat.le_of_ble_eq_true rfl, Nat.le_of_ble_eq_true rfl⟩) hS (fun z9 _ ⟨k9, e9, h9⟩ => (hD.sub (ws' := [(x, .inr (2, [.ref rg, .ref tr, .ref pn, .int (nI d), .int (nI rk), .int ld, .int li, .int tl, .int mo]))]) [0] (by decide) rfl).2 k9 (z9, e9) h9) (fun z9 ⟨k9, e9, h9⟩ => (hD.sub (ws' := [(x, .inr (2, [.ref rg, .ref tr, .ref pn, .int (nI d), .int (nI rk), .int ld, .int li, .int tl, .int mo]))]) [0] (by decide) rfl).2 k9 (z9, e9) h9) (fun H1 locs hB hz1 hk1 hS => ?_)
            obtain ⟨hP, hD⟩ := c_join (ws' := [(x, .inr (2, [.ref rg, .ref tr, .ref pn, .int (nI d), .int (nI rk), .int ld, .int li, .int tl, .int (if 0 < ld then mo + nI k else mo)])), (rg, .inr (1, [.ref ro, .ref rl, .int pl])), (ro, .inl (cI, 4, .inl fo)), (rl, .inl (cI, 28, .inl (sh fl)))]) (wr := [(rg, .inr (1, [.ref ro, .ref rl, .int pl])), (ro, .inl (cI, 4, .inl fo)), (rl, .inl (cI, 28, .inl (sh fl)))]) (w1 := [(x, .inr (2, [.ref rg, .ref tr, .ref pn, .int (nI d), .int (nI rk), .int ld, .int li, .int tl, .int (if 0 < ld then mo + nI k else mo)]))]) hP hD [0] [1, 2, 3] [3, 0, 1, 2] rfl rfl (by decide) (by decide) hk1 hB rfl rfl rfl (by decide)
            generalize H1 = H at hP hS ⊢
            show W _ _ _ _ _ _ _ _ _ _ _ _ _ _ _ (F0 m 97 ls [])
            rw [← hG2] at hP
            rw [← hG1] at hP
            refine lv_iload hx hb dX2_stretch_97 (lv_at hl 0 rfl) ?_
            refine vx_ret ?_
            refine W.widen (k := 1) (n := 6) (Nat.le_of_ble_eq_true rfl) (Nat.le_of_ble_eq_true rfl) ?_
            exact W.iret (v := (nI k)) hx hb hRt (fun t ht hW => ⟨⟨by rw [← hG1], by rw [ht]; exact ⟨k1_yes hp, hP⟩⟩, hS.F ht⟩) hS.2.2 dX2_stretch_99
      refine lv_istore_n (lv' := [(3, .int (-1)), (0, .ref x), (1, .int (nI kv)), (2, .int u)]) hx hb dX2_stretch_29 rfl hl (by decide) rfl (fun ls hl => ?_)
      refine lv_iconst (v := 0) hx hb dX2_stretch_30 (by decide) ?_
      refine lv_istore (lv' := [(4, .int 0), (3, .int (-1)), (0, .ref x), (1, .int (nI kv)), (2, .int u)]) hx hb dX2_stretch_31 hl (by decide) rfl (fun ls hl => ?_)
      have hl : lv_has ls 5 [(4, .int (nI 0)), (3, .int (-1)), (0, .ref x), (1, .int (nI kv)), (2, .int u)] := (show 0 = nI 0 from rfl) ▸ hl
      exact loop kv 0 r _ _ _ (by omega) hr (by rw [hvn]; exact ⟨Nat.zero_add _, rfl⟩) (lv_sub hl [0, 1, 2, 3, 4] rfl) hP hD hS
    · refine lv_iconst (v := 1) hx hb dX2_stretch_24 (by decide) ?_
      refine lv_goto (tgt := 29) hx hb dX2_stretch_25 (by decide) ?_
      have htu : ∀ z, 3 ≤ z ∧ z ≤ 30 → nI z + 1 = nI (stX (decide (¬ u = 0)) z) := fun z hz => by rw [nI_1]; unfold stX; simp [c_31]
      have hlt : ∀ z, 3 ≤ z ∧ z ≤ 30 → stX (decide (¬ u = 0)) z < 100 := fun z hz => by unfold stX; split <;> omega
      have loop : ∀ (n : Nat) (k : Nat) (rk : Nat) (H : Heap) (locs : List Loc) (ls : Array Slot), k + n = kv → (3 ≤ rk ∧ rk ≤ 30) → (k + (stN (fun k => safS fo fl pl ld d k) (decide (¬ u = 0)) n rk).1 = (stN (fun k => safS fo fl pl ld d k) (decide (¬ u = 0)) v.toNatClampNeg r).1 ∧ (stN (fun k => safS fo fl pl ld d k) (decide (¬ u = 0)) n rk).2 = (stN (fun k => safS fo fl pl ld d k) (decide (¬ u = 0)) v.toNatClampNeg r).2) → lv_has ls 5 [(4, .int (nI k)), (3, .int 1), (0, .ref x), (1, .int (nI kv)), (2, .int u)] → va_P D vwCl [(x, .inr (2, [.ref rg, .ref tr, .ref pn, .int (nI d), .int (nI rk), .int ld, .int li, .int tl, .int mo])), (rg, .inr (1, [.ref ro, .ref rl, .int pl])), (ro, .inl (cI, 4, .inl fo)), (rl, .inl (cI, 28, .inl (sh fl)))] H → va_D A [(x, .inr (2, [.ref rg, .ref tr, .ref pn, .int (nI d), .int (nI rk), .int ld, .int li, .int tl, .int mo])), (rg, .inr (1, [.ref ro, .ref rl, .int pl])), (ro, .inl (cI, 4, .inl fo)), (rl, .inl (cI, 28, .inl (sh fl)))] → va_S A s.heap H locs → W p l e (headSpec wsX2_stretch ({ frames := 6, cells := 1, slots := 6, locals := 86 })).room s m ([.ref x, .int v, .int u]).toArray below meth c H locs 0 0 (vx_MQ below (cB (some (.int (nI (stN (fun k => safS fo fl pl ld d k) (decide (¬ u = 0)) v.toNatClampNeg r).1))) (fun H => k1 (inR v 1 30) = 0 ∧ va_P D vwCl [(x, .inr (2, [.ref rg, .ref tr, .ref pn, .int (nI d), .int (nI (stN (fun k => safS fo fl pl ld d k) (decide (¬ u = 0)) v.toNatClampNeg r).2), .int ld, .int li, .int tl, .int (if 0 < ld then mo + nI (stN (fun k => safS fo fl pl ld d k) (decide (¬ u = 0)) v.toNatClampNeg r).1 else mo)])), (rg, .inr (1, [.ref ro, .ref rl, .int pl])), (ro, .inl (cI, 4, .inl fo)), (rl, .inl (cI, 28, .inl (sh fl)))] H) A) (cX (fun E => E = xIAE ∧ k1 (inR v 1 30) = 1) (fun H => va_P D vwCl [(x, .inr (2, [.ref rg, .ref tr, .ref pn, .int (nI d), .int (nI r), .int ld, .int li, .int tl, .int mo])), (rg, .inr (1, [.ref ro, .ref rl, .int pl])), (ro, .inl (cI, 4, .inl fo)), (rl, .inl (cI, 28, .inl (sh fl)))] H) A) ([.ref x, .int v, .int u]).toArray s 1 6 A) (F0 m 33 ls []) := by
        intro n
        induction n with
        | zero =>
          intro k rk H locs ls hn hrk hG hl hP hD hS
          have hG1 : (stN (fun k => safS fo fl pl ld d k) (decide (¬ u = 0)) v.toNatClampNeg r).1 = k := by rw [← hG.1]; rfl
          have hG2 : (stN (fun k => safS fo fl pl ld d k) (decide (¬ u = 0)) v.toNatClampNeg r).2 = rk := by rw [← hG.2]; rfl
          refine lv_iload hx hb dX2_stretch_33 (lv_at hl 0 rfl) ?_
          refine lv_iload_n hx hb dX2_stretch_35 rfl (lv_at hl 3 rfl) ?_
          refine lv_icmp_ge (tgt := 91) hx hb dX2_stretch_36 (by decide) (fun _ => ?_) (fun c_39 => absurd (by rw [show k = kv by omega]; exact Int32.le_refl _) c_39)
          refine lv_aload_n hx hb dX2_stretch_91 rfl (lv_at hl 2 rfl) ?_
          refine lv_iload hx hb dX2_stretch_92 (lv_at hl 0 rfl) ?_
          have hPc := hP.sub (ws' := [(x, .inr (2, [.ref rg, .ref tr, .ref pn, .int (nI d), .int (nI rk), .int ld, .int li, .int tl, .int mo]))]) [0] rfl
          have hDc : va_D (fun q : Nat => L0 ≤ q) [(x, .inr (2, [.ref rg, .ref tr, .ref pn, .int (nI d), .int (nI rk), .int ld, .int li, .int tl, .int mo]))] := (hD.sub (ws' := [(x, .inr (2, [.ref rg, .ref tr, .ref pn, .int (nI d), .int (nI rk), .int ld, .int li, .int tl, .int mo]))]) [0] (by decide) rfl).weaken (fun _ z9 _ h9 => hAL _ h9)
          have hKc := hK.sub (tys' := []) [] rfl
          refine c_callB (va_runV (As := [.int (nI k)]) (rest := []) ⟨hx, hb, hml, hown, hts⟩ (k_countMoves l D L0 x rg tr pn d rk ld li tl mo (nI k)) (cwV 1 hts gX2_stretch_X2_countMoves rfl rfl rfl (by decide +kernel) ⟨Nat.le_of_ble_eq_true rfl, Nat.le_of_ble_eq_true rfl⟩) ⟨cP_blind, va_recv hKc hPc (ci := 2) (q0 := 0) rfl rfl, cP_of hPc hKc hDc (kE_at hE0 hAL hS)⟩ rfl rfl hl.1 rfl (lv_room (Nat.le_of_ble_eq_true rfl)) dX2_stretch_94 ⟨Nat.le_of_ble_eq_true rfl, Nat.le_of_ble_eq_true rfl⟩) hS (fun z9 _ ⟨k9, e9, h9⟩ => (hD.sub (ws' := [(x, .inr (2, [.ref rg, .ref tr, .ref pn, .int (nI d), .int (nI rk), .int ld, .int li, .int tl, .int mo]))]) [0] (by decide) rfl).2 k9 (z9, e9) h9) (fun z9 ⟨k9, e9, h9⟩ => (hD.sub (ws' := [(x, .inr (2, [.ref rg, .ref tr, .ref pn, .int (nI d), .int (nI rk), .int ld, .int li, .int tl, .int mo]))]) [0] (by decide) rfl).2 k9 (z9, e9) h9) (fun H1 locs hB hz1 hk1 hS => ?_)
          obtain ⟨hP, hD⟩ := c_join (ws' := [(x, .inr (2, [.ref rg, .ref tr, .ref pn, .int (nI d), .int (nI rk), .int ld, .int li, .int tl, .int (if 0 < ld then mo + nI k else mo)])), (rg, .inr (1, [.ref ro, .ref rl, .int pl])), (ro, .inl (cI, 4, .inl fo)), (rl, .inl (cI, 28, .inl (sh fl)))]) (wr := [(rg, .inr (1, [.ref ro, .ref rl, .int pl])), (ro, .inl (cI, 4, .inl fo)), (rl, .inl (cI, 28, .inl (sh fl)))]) (w1 := [(x, .inr (2, [.ref rg, .ref tr, .ref pn, .int (nI d), .int (nI rk), .int ld, .int li, .int tl, .int (if 0 < ld then mo + nI k else mo)]))]) hP hD [0] [1, 2, 3] [3, 0, 1, 2] rfl rfl (by decide) (by decide) hk1 hB rfl rfl rfl (by decide)
          generalize H1 = H at hP hS ⊢
          show W _ _ _ _ _ _ _ _ _ _ _ _ _ _ _ (F0 m 97 ls [])
          rw [← hG2] at hP
          rw [← hG1] at hP
          refine lv_iload hx hb dX2_stretch_97 (lv_at hl 0 rfl) ?_
          refine vx_ret ?_
          refine W.widen (k := 1) (n := 6) (Nat.le_of_ble_eq_true rfl) (Nat.le_of_ble_eq_true rfl) ?_
          exact W.iret (v := (nI k)) hx hb hRt (fun t ht hW => ⟨⟨by rw [← hG1], by rw [ht]; exact ⟨k1_yes hp, hP⟩⟩, hS.F ht⟩) hS.2.2 dX2_stretch_99
        | succ n ih =>
          intro k rk H locs ls hn hrk hG hl hP hD hS
          refine lv_iload hx hb dX2_stretch_33 (lv_at hl 0 rfl) ?_
          refine lv_iload_n hx hb dX2_stretch_35 rfl (lv_at hl 3 rfl) ?_
          refine lv_icmp_ge (tgt := 91) hx hb dX2_stretch_36 (by decide) (fun c_40 => absurd c_40 (nI_ge (by omega) (by omega))) (fun _ => ?_)
          refine lv_aload_n hx hb dX2_stretch_39 rfl (lv_at hl 2 rfl) ?_
          refine va_get (D := D) (ci := 2) (v := .int (nI rk)) (C := RX2) (T := TX2) (N := 9) hx hb hts hiX2 hown hK hP 0 rfl rfl 4 (by decide) (hts (.fieldLink RX2 26 "CraneReach" "reach" "I") (by decide +kernel)) (fun _ h9 => h9) rfl dX2_stretch_40 ?_
          refine lv_iload_n hx hb dX2_stretch_43 rfl (lv_at hl 1 rfl) ?_
          refine lv_iadd hx hb dX2_stretch_44 ?_
          refine c_top (show (nI rk) + 1 = nI (stX (decide (¬ u = 0)) rk) from htu rk hrk) ?_
          have hxl := hlt rk hrk
          have hPc := hP.sub (ws' := []) [] rfl
          have hDc : va_D (fun q : Nat => L0 ≤ q) [] := (hD.sub (ws' := []) [] (by decide) rfl).weaken (fun _ z9 _ h9 => hAL _ h9)
          have hKc := hK.sub (tys' := []) [] rfl
          refine c_callR (va_runS (As := [.int (nI (stX (decide (¬ u = 0)) rk))]) (rest := []) ⟨hx, hb, hml, hown, hts⟩ (k_isReach l D L0 (nI (stX (decide (¬ u = 0)) rk))) (va_cwS 1 hts gX2_stretch_X2_isReach rfl rfl rfl (by decide +kernel) ⟨Nat.le_of_ble_eq_true rfl, Nat.le_of_ble_eq_true rfl⟩) ⟨cP_blind, cP_of hPc hKc hDc (kE_at hE0 hAL hS)⟩ rfl rfl hl.1 rfl (lv_room (Nat.le_of_ble_eq_true rfl)) dX2_stretch_45 ⟨Nat.le_of_ble_eq_true rfl, Nat.le_of_ble_eq_true rfl⟩) ?_
          show W _ _ _ _ _ _ _ _ _ _ _ _ _ _ _ (F0 m 48 ls [.int (bI (decide (3 ≤ nI (stX (decide (¬ u = 0)) rk)) && decide (nI (stX (decide (¬ u = 0)) rk) ≤ 30)))])
          by_cases cr : 3 ≤ stX (decide (¬ u = 0)) rk ∧ stX (decide (¬ u = 0)) rk ≤ 30
          · refine c_top (show bI (decide (3 ≤ nI (stX (decide (¬ u = 0)) rk)) && decide (nI (stX (decide (¬ u = 0)) rk) ≤ 30)) = 1 from isR_yes cr) ?_
            refine lv_if_eq (tgt := 91) hx hb dX2_stretch_48 (by decide) (fun c_42 => absurd c_42 (by decide)) (fun _ => ?_)
            refine lv_aload_n hx hb dX2_stretch_51 rfl (lv_at hl 2 rfl) ?_
            refine va_get (D := D) (ci := 2) (v := .ref rg) (C := RX2) (T := TX2) (N := 9) hx hb hts hiX2 hown hK hP 0 rfl rfl 0 (by decide) (hts (.fieldLink RX2 12 "CraneReach" "rig" "LCraneReach$Rig;") (by decide +kernel)) (fun _ h9 => h9) rfl dX2_stretch_52 ?_
            refine lv_aload_n hx hb dX2_stretch_55 rfl (lv_at hl 2 rfl) ?_
            refine va_get (D := D) (ci := 2) (v := .int ld) (C := RX2) (T := TX2) (N := 9) hx hb hts hiX2 hown hK hP 0 rfl rfl 5 (by decide) (hts (.fieldLink RX2 48 "CraneReach" "load" "I") (by decide +kernel)) (fun _ h9 => h9) rfl dX2_stretch_56 ?_
            refine lv_aload_n hx hb dX2_stretch_59 rfl (lv_at hl 2 rfl) ?_
            refine va_get (D := D) (ci := 2) (v := .int (nI d)) (C := RX2) (T := TX2) (N := 9) hx hb hts hiX2 hown hK hP 0 rfl rfl 3 (by decide) (hts (.fieldLink RX2 98 "CraneReach" "direction" "I") (by decide +kernel)) (fun _ h9 => h9) rfl dX2_stretch_60 ?_
            refine lv_aload_n hx hb dX2_stretch_63 rfl (lv_at hl 2 rfl) ?_
            refine va_get (D := D) (ci := 2) (v := .int (nI rk)) (C := RX2) (T := TX2) (N := 9) hx hb hts hiX2 hown hK hP 0 rfl rfl 4 (by decide) (hts (.fieldLink RX2 26 "CraneReach" "reach" "I") (by decide +kernel)) (fun _ h9 => h9) rfl dX2_stretch_64 ?_
            refine lv_iload_n hx hb dX2_stretch_67 rfl (lv_at hl 1 rfl) ?_
            refine lv_iadd hx hb dX2_stretch_68 ?_
            refine c_top (show (nI rk) + 1 = nI (stX (decide (¬ u = 0)) rk) from htu rk hrk) ?_
            have hPc := hP.sub (ws' := [(rg, .inr (1, [.ref ro, .ref rl, .int pl])), (ro, .inl (cI, 4, .inl fo)), (rl, .inl (cI, 28, .inl (sh fl)))]) [1, 2, 3] rfl
            have hDc : va_D (fun q : Nat => L0 ≤ q) [(rg, .inr (1, [.ref ro, .ref rl, .int pl])), (ro, .inl (cI, 4, .inl fo)), (rl, .inl (cI, 28, .inl (sh fl)))] := (hD.sub (ws' := [(rg, .inr (1, [.ref ro, .ref rl, .int pl])), (ro, .inl (cI, 4, .inl fo)), (rl, .inl (cI, 28, .inl (sh fl)))]) [1, 2, 3] (by decide) rfl).weaken (fun _ z9 _ h9 => hAL _ h9)
            have hKc := hK.sub (tys' := [(cI, .int)]) [0] rfl
            refine c_callR (va_runV (As := [.int ld, .int (nI d), .int (nI (stX (decide (¬ u = 0)) rk))]) (rest := []) ⟨hx, hb, hml, hown, hts⟩ (k_isSafe l D L0 cI rg ro rl pl fo fl d (stX (decide (¬ u = 0)) rk) ld hd cr) (cwV 3 hts gX2_stretch_X1_isSafe rfl rfl rfl (by decide +kernel) ⟨Nat.le_of_ble_eq_true rfl, Nat.le_of_ble_eq_true rfl⟩) ⟨cP_blind, va_recv hKc hPc (ci := 1) (q0 := 0) rfl rfl, cP_of hPc hKc hDc (kE_at hE0 hAL hS)⟩ rfl rfl hl.1 rfl (lv_room (Nat.le_of_ble_eq_true rfl)) dX2_stretch_69 ⟨Nat.le_of_ble_eq_true rfl, Nat.le_of_ble_eq_true rfl⟩) ?_
            show W _ _ _ _ _ _ _ _ _ _ _ _ _ _ _ (F0 m 72 ls [.int (bI (safS fo fl pl ld d (stX (decide (¬ u = 0)) rk)))])
            obtain ⟨b_43, hbv_44⟩ : ∃ z : Bool, z = safS fo fl pl ld d (stX (decide (¬ u = 0)) rk) := ⟨_, rfl⟩
            refine c_top (show bI (safS fo fl pl ld d (stX (decide (¬ u = 0)) rk)) = bI b_43 from by rw [hbv_44]) ?_
            refine lv_if_eq (tgt := 91) hx hb dX2_stretch_72 (by decide) (fun c_45 => ?_) (fun c_45 => ?_)
            · have hs : safS fo fl pl ld d (stX (decide (¬ u = 0)) rk) = false := by rw [← hbv_44]; cases b_43 with | false => rfl | true => exact absurd c_45 (by decide)
              have hG1 : (stN (fun k => safS fo fl pl ld d k) (decide (¬ u = 0)) v.toNatClampNeg r).1 = k := by rw [← hG.1, stN, if_neg (fun z => by rw [hs] at z; exact absurd z.2 (by decide))]; rfl
              have hG2 : (stN (fun k => safS fo fl pl ld d k) (decide (¬ u = 0)) v.toNatClampNeg r).2 = rk := by rw [← hG.2, stN, if_neg (fun z => by rw [hs] at z; exact absurd z.2 (by decide))]
              refine lv_aload_n hx hb dX2_stretch_91 rfl (lv_at hl 2 rfl) ?_
              refine lv_iload hx hb dX2_stretch_92 (lv_at hl 0 rfl) ?_
              have hPc := hP.sub (ws' := [(x, .inr (2, [.ref rg, .ref tr, .ref pn, .int (nI d), .int (nI rk), .int ld, .int li, .int tl, .int mo]))]) [0] rfl
              have hDc : va_D (fun q : Nat => L0 ≤ q) [(x, .inr (2, [.ref rg, .ref tr, .ref pn, .int (nI d), .int (nI rk), .int ld, .int li, .int tl, .int mo]))] := (hD.sub (ws' := [(x, .inr (2, [.ref rg, .ref tr, .ref pn, .int (nI d), .int (nI rk), .int ld, .int li, .int tl, .int mo]))]) [0] (by decide) rfl).weaken (fun _ z9 _ h9 => hAL _ h9)
              have hKc := hK.sub (tys' := []) [] rfl
              refine c_callB (va_runV (As := [.int (nI k)]) (rest := []) ⟨hx, hb, hml, hown, hts⟩ (k_countMoves l D L0 x rg tr pn d rk ld li tl mo (nI k)) (cwV 1 hts gX2_stretch_X2_countMoves rfl rfl rfl (by decide +kernel) ⟨Nat.le_of_ble_eq_true rfl, Nat.le_of_ble_eq_true rfl⟩) ⟨cP_blind, va_recv hKc hPc (ci := 2) (q0 := 0) rfl rfl, cP_of hPc hKc hDc (kE_at hE0 hAL hS)⟩ rfl rfl hl.1 rfl (lv_room (Nat.le_of_ble_eq_true rfl)) dX2_stretch_94 ⟨Nat.le_of_ble_eq_true rfl, Nat.le_of_ble_eq_true rfl⟩) hS (fun z9 _ ⟨k9, e9, h9⟩ => (hD.sub (ws' := [(x, .inr (2, [.ref rg, .ref tr, .ref pn, .int (nI d), .int (nI rk), .int ld, .int li, .int tl, .int mo]))]) [0] (by decide) rfl).2 k9 (z9, e9) h9) (fun z9 ⟨k9, e9, h9⟩ => (hD.sub (ws' := [(x, .inr (2, [.ref rg, .ref tr, .ref pn, .int (nI d), .int (nI rk), .int ld, .int li, .int tl, .int mo]))]) [0] (by decide) rfl).2 k9 (z9, e9) h9) (fun H1 locs hB hz1 hk1 hS => ?_)
              obtain ⟨hP, hD⟩ := c_join (ws' := [(x, .inr (2, [.ref rg, .ref tr, .ref pn, .int (nI d), .int (nI rk), .int ld, .int li, .int tl, .int (if 0 < ld then mo + nI k else mo)])), (rg, .inr (1, [.ref ro, .ref rl, .int pl])), (ro, .inl (cI, 4, .inl fo)), (rl, .inl (cI, 28, .inl (sh fl)))]) (wr := [(rg, .inr (1, [.ref ro, .ref rl, .int pl])), (ro, .inl (cI, 4, .inl fo)), (rl, .inl (cI, 28, .inl (sh fl)))]) (w1 := [(x, .inr (2, [.ref rg, .ref tr, .ref pn, .int (nI d), .int (nI rk), .int ld, .int li, .int tl, .int (if 0 < ld then mo + nI k else mo)]))]) hP hD [0] [1, 2, 3] [3, 0, 1, 2] rfl rfl (by decide) (by decide) hk1 hB rfl rfl rfl (by decide)
              generalize H1 = H at hP hS ⊢
              show W _ _ _ _ _ _ _ _ _ _ _ _ _ _ _ (F0 m 97 ls [])
              rw [← hG2] at hP
              rw [← hG1] at hP
              refine lv_iload hx hb dX2_stretch_97 (lv_at hl 0 rfl) ?_
              refine vx_ret ?_
              refine W.widen (k := 1) (n := 6) (Nat.le_of_ble_eq_true rfl) (Nat.le_of_ble_eq_true rfl) ?_
              exact W.iret (v := (nI k)) hx hb hRt (fun t ht hW => ⟨⟨by rw [← hG1], by rw [ht]; exact ⟨k1_yes hp, hP⟩⟩, hS.F ht⟩) hS.2.2 dX2_stretch_99
            · have hs : safS fo fl pl ld d (stX (decide (¬ u = 0)) rk) = true := by rw [← hbv_44]; cases b_43 with | true => rfl | false => exact absurd rfl c_45
              refine lv_aload_n hx hb dX2_stretch_75 rfl (lv_at hl 2 rfl) ?_
              refine lv_dup hx hb dX2_stretch_76 rfl ?_
              refine va_get (D := D) (ci := 2) (v := .int (nI rk)) (C := RX2) (T := TX2) (N := 9) hx hb hts hiX2 hown hK hP 0 rfl rfl 4 (by decide) (hts (.fieldLink RX2 26 "CraneReach" "reach" "I") (by decide +kernel)) (fun _ h9 => h9) rfl dX2_stretch_77 ?_
              refine lv_iload_n hx hb dX2_stretch_80 rfl (lv_at hl 1 rfl) ?_
              refine lv_iadd hx hb dX2_stretch_81 ?_
              refine c_top (show (nI rk) + 1 = nI (stX (decide (¬ u = 0)) rk) from htu rk hrk) ?_
              refine va_put (D := D) (ci := 2) (v := .int (nI (stX (decide (¬ u = 0)) rk))) (ty := .int) (C := RX2) (T := TX2) (N := 9) hx hb hts hiX2 tyX2 tyX2_ok nmX2 hown hK hP hD hS 0 rfl rfl 4 (by decide) (hts (.fieldLink RX2 26 "CraneReach" "reach" "I") (by decide +kernel)) (fun _ h9 => h9) rfl (by decide +kernel) rfl rfl (Nat.le_of_ble_eq_true rfl) dX2_stretch_82 (fun H locs hP hD hS => ?_)
              have hP : va_P D vwCl [(x, .inr (2, [.ref rg, .ref tr, .ref pn, .int (nI d), .int (nI (stX (decide (¬ u = 0)) rk)), .int ld, .int li, .int tl, .int mo])), (rg, .inr (1, [.ref ro, .ref rl, .int pl])), (ro, .inl (cI, 4, .inl fo)), (rl, .inl (cI, 28, .inl (sh fl)))] H := hP
              have hD : va_D A [(x, .inr (2, [.ref rg, .ref tr, .ref pn, .int (nI d), .int (nI (stX (decide (¬ u = 0)) rk)), .int ld, .int li, .int tl, .int mo])), (rg, .inr (1, [.ref ro, .ref rl, .int pl])), (ro, .inl (cI, 4, .inl fo)), (rl, .inl (cI, 28, .inl (sh fl)))] := hD
              refine lv_iinc (v := (nI k) + 1) (lv' := [(4, .int ((nI k) + 1)), (3, .int 1), (0, .ref x), (1, .int (nI kv)), (2, .int u)]) hx hb dX2_stretch_85 hl (k := 0) rfl rfl (by decide) rfl (fun ls hl => ?_)
              refine lv_goto (tgt := 33) hx hb dX2_stretch_88 (by decide) ?_
              have hl : lv_has ls 5 [(4, .int (nI (k + 1))), (3, .int 1), (0, .ref x), (1, .int (nI kv)), (2, .int u)] := (show (nI k) + 1 = nI (k + 1) from nI_1 k) ▸ hl
              exact ih (k + 1) (stX (decide (¬ u = 0)) rk) _ _ _ (by omega) cr (by rw [stN, if_pos ⟨cr, hs⟩] at hG; exact ⟨by rw [← hG.1]; exact (Nat.add_right_comm k 1 _).trans (Nat.add_assoc k _ 1), hG.2⟩) (lv_sub hl [0, 1, 2, 3, 4] rfl) hP hD hS
          · refine c_top (show bI (decide (3 ≤ nI (stX (decide (¬ u = 0)) rk)) && decide (nI (stX (decide (¬ u = 0)) rk) ≤ 30)) = 0 from isR_no hxl cr) ?_
            refine lv_if_eq (tgt := 91) hx hb dX2_stretch_48 (by decide) (fun _ => ?_) (fun c_41 => absurd (rfl) c_41)
            have hG1 : (stN (fun k => safS fo fl pl ld d k) (decide (¬ u = 0)) v.toNatClampNeg r).1 = k := by rw [← hG.1, stN, if_neg (fun z => cr z.1)]; rfl
            have hG2 : (stN (fun k => safS fo fl pl ld d k) (decide (¬ u = 0)) v.toNatClampNeg r).2 = rk := by rw [← hG.2, stN, if_neg (fun z => cr z.1)]
            refine lv_aload_n hx hb dX2_stretch_91 rfl (lv_at hl 2 rfl) ?_
            refine lv_iload hx hb dX2_stretch_92 (lv_at hl 0 rfl) ?_
            have hPc := hP.sub (ws' := [(x, .inr (2, [.ref rg, .ref tr, .ref pn, .int (nI d), .int (nI rk), .int ld, .int li, .int tl, .int mo]))]) [0] rfl
            have hDc : va_D (fun q : Nat => L0 ≤ q) [(x, .inr (2, [.ref rg, .ref tr, .ref pn, .int (nI d), .int (nI rk), .int ld, .int li, .int tl, .int mo]))] := (hD.sub (ws' := [(x, .inr (2, [.ref rg, .ref tr, .ref pn, .int (nI d), .int (nI rk), .int ld, .int li, .int tl, .int mo]))]) [0] (by decide) rfl).weaken (fun _ z9 _ h9 => hAL _ h9)
            have hKc := hK.sub (tys' := []) [] rfl
            refine c_callB (va_runV (As := [.int (nI k)]) (rest := []) ⟨hx, hb, hml, hown, hts⟩ (k_countMoves l D L0 x rg tr pn d rk ld li tl mo (nI k)) (cwV 1 hts gX2_stretch_X2_countMoves rfl rfl rfl (by decide +kernel) ⟨Nat.le_of_ble_eq_true rfl, Nat.le_of_ble_eq_true rfl⟩) ⟨cP_blind, va_recv hKc hPc (ci := 2) (q0 := 0) rfl rfl, cP_of hPc hKc hDc (kE_at hE0 hAL hS)⟩ rfl rfl hl.1 rfl (lv_room (Nat.le_of_ble_eq_true rfl)) dX2_stretch_94 ⟨Nat.le_of_ble_eq_true rfl, Nat.le_of_ble_eq_true rfl⟩) hS (fun z9 _ ⟨k9, e9, h9⟩ => (hD.sub (ws' := [(x, .inr (2, [.ref rg, .ref tr, .ref pn, .int (nI d), .int (nI rk), .int ld, .int li, .int tl, .int mo]))]) [0] (by decide) rfl).2 k9 (z9, e9) h9) (fun z9 ⟨k9, e9, h9⟩ => (hD.sub (ws' := [(x, .inr (2, [.ref rg, .ref tr, .ref pn, .int (nI d), .int (nI rk), .int ld, .int li, .int tl, .int mo]))]) [0] (by decide) rfl).2 k9 (z9, e9) h9) (fun H1 locs hB hz1 hk1 hS => ?_)
            obtain ⟨hP, hD⟩ := c_join (ws' := [(x, .inr (2, [.ref rg, .ref tr, .ref pn, .int (nI d), .int (nI rk), .int ld, .int li, .int tl, .int (if 0 < ld then mo + nI k else mo)])), (rg, .inr (1, [.ref ro, .ref rl, .int pl])), (ro, .inl (cI, 4, .inl fo)), (rl, .inl (cI, 28, .inl (sh fl)))]) (wr := [(rg, .inr (1, [.ref ro, .ref rl, .int pl])), (ro, .inl (cI, 4, .inl fo)), (rl, .inl (cI, 28, .inl (sh fl)))]) (w1 := [(x, .inr (2, [.ref rg, .ref tr, .ref pn, .int (nI d), .int (nI rk), .int ld, .int li, .int tl, .int (if 0 < ld then mo + nI k else mo)]))]) hP hD [0] [1, 2, 3] [3, 0, 1, 2] rfl rfl (by decide) (by decide) hk1 hB rfl rfl rfl (by decide)
            generalize H1 = H at hP hS ⊢
            show W _ _ _ _ _ _ _ _ _ _ _ _ _ _ _ (F0 m 97 ls [])
            rw [← hG2] at hP
            rw [← hG1] at hP
            refine lv_iload hx hb dX2_stretch_97 (lv_at hl 0 rfl) ?_
            refine vx_ret ?_
            refine W.widen (k := 1) (n := 6) (Nat.le_of_ble_eq_true rfl) (Nat.le_of_ble_eq_true rfl) ?_
            exact W.iret (v := (nI k)) hx hb hRt (fun t ht hW => ⟨⟨by rw [← hG1], by rw [ht]; exact ⟨k1_yes hp, hP⟩⟩, hS.F ht⟩) hS.2.2 dX2_stretch_99
      refine lv_istore_n (lv' := [(3, .int 1), (0, .ref x), (1, .int (nI kv)), (2, .int u)]) hx hb dX2_stretch_29 rfl hl (by decide) rfl (fun ls hl => ?_)
      refine lv_iconst (v := 0) hx hb dX2_stretch_30 (by decide) ?_
      refine lv_istore (lv' := [(4, .int 0), (3, .int 1), (0, .ref x), (1, .int (nI kv)), (2, .int u)]) hx hb dX2_stretch_31 hl (by decide) rfl (fun ls hl => ?_)
      have hl : lv_has ls 5 [(4, .int (nI 0)), (3, .int 1), (0, .ref x), (1, .int (nI kv)), (2, .int u)] := (show 0 = nI 0 from rfl) ▸ hl
      exact loop kv 0 r _ _ _ (by omega) hr (by rw [hvn]; exact ⟨Nat.zero_add _, rfl⟩) (lv_sub hl [0, 1, 2, 3, 4] rfl) hP hD hS
  · have hn : ¬ inR v 1 30 := fun hp => absurd c_30 (by rw [hbv_29]; simp [hp.1, hp.2, bI])
    exact c_throw (cls := xIAE) (text := "metres must be 1 to 30") hx hb hfl hown (Or.inl rfl) (hts (.classLink RX2 34 xIAE) (by decide +kernel)) (hts (.initialized xIAE) (by decide +kernel)) hE0 hAL (by decide) (fun z hz => hts z (hin38 z hz)) (by decide +kernel) (by decide +kernel) hS hl.1 hml dX2_stretch_10 dX2_stretch_13 dX2_stretch_14 dX2_stretch_16 dX2_stretch_19 hxt (Nat.le_of_ble_eq_true rfl) (Nat.le_of_ble_eq_true rfl) (Nat.le_of_ble_eq_true rfl) (Nat.le_of_ble_eq_true rfl) hlocks (⟨rfl, k1_no hn⟩) (fun H1 hz hq => c_PX hP hq) (fun q h => h) (fun q h => h) (Nat.le_of_ble_eq_true rfl) (Nat.le_of_ble_eq_true rfl)
