set_option maxHeartbeats 4000000 in
set_option maxRecDepth 100000 in
/-- move(most, turn, out) -/
theorem s_move (l : Launch) (D : va_G) (L0 : Nat) (cI : ClassId) (sm so sq d r : Nat) (ld pl li tl mo : Int32) (fo fl : Nat → Int32) (n : Nat) (h30 : n ≤ 30) (tu ou : Int32) (fd fr : Nat → Nat) (htu : ∀ z, z < 8 → (nI z + tu + 8) - (nI z + tu + 8) / 8 * 8 = nI (fd z) ∧ fd z < 8) (hou : ∀ z, 3 ≤ z ∧ z ≤ 30 → nI z + ou = nI (fr z) ∧ fr z < 100) (hd : d < 8) (hr : 3 ≤ r ∧ r ≤ 30) (sz : Nat) : Met l yX3_move wsX3_move ({ frames := 4, cells := 150, slots := 1050, locals := 81 }) (cPz L0 D [(cI, .int)] [(sm, .inr (3, [.int (nI d), .int (nI r), .int ld, .int pl, .ref so, .ref sq, .int li, .int tl, .int mo])), (so, .inl (cI, 4, .inl fo)), (sq, .inl (cI, 31, .inl fl))] [.ref sm, .int (nI n), .int tu, .int ou] sz) (cB (some (.int (nI (mvN (fun a b => safS fo fl pl ld a b) fd fr n d r).1))) (fun H => va_P D vwCl [(sm, .inr (3, [.int (nI (mvN (fun a b => safS fo fl pl ld a b) fd fr n d r).2.1), .int (nI (mvN (fun a b => safS fo fl pl ld a b) fd fr n d r).2.2), .int ld, .int pl, .ref so, .ref sq, .int li, .int tl, .int (mvI ld mo (mvN (fun a b => safS fo fl pl ld a b) fd fr n d r).1)])), (so, .inl (cI, 4, .inl fo)), (sq, .inl (cI, 31, .inl fl))] H) (va_A [(sm, .inr (3, [.int (nI d), .int (nI r), .int ld, .int pl, .ref so, .ref sq, .int li, .int tl, .int mo])), (so, .inl (cI, 4, .inl fo)), (sq, .inl (cI, 31, .inl fl))] sz)) 150 1050 (va_A [(sm, .inr (3, [.int (nI d), .int (nI r), .int ld, .int pl, .ref so, .ref sq, .int li, .int tl, .int mo])), (so, .inl (cI, 4, .inl fo)), (sq, .inl (cI, 31, .inl fl))] sz) := by
  refine Met.ofW (cc := cX3_move) (maxL := 7) (ret := (some .int)) (by decide) rfl ?_
  intro p e s m args below meth c s₁ B hml hv
  obtain ⟨⟨rfl, hP, hK, hD0, hE0⟩, rfl⟩ := hv
  have hx := B.exec
  have hb := B.bytes
  have hRt := B.returns
  have hts := atoms_spec (ws := wsX3_move) B.pre
  have hown : s.vm.findClass RX3 = some m.cls := findClass_of_methodNamed B.named
  have hlocks := B.notSynchronized
  have hAL : ∀ z9 : Nat, va_A [(sm, .inr (3, [.int (nI d), .int (nI r), .int ld, .int pl, .ref so, .ref sq, .int li, .int tl, .int mo])), (so, .inl (cI, 4, .inl fo)), (sq, .inl (cI, 31, .inl fl))] s.heap.size z9 → L0 ≤ z9 := fun z9 h9 => h9.elim (fun ⟨k9, e9, h8⟩ => hD0.2 k9 (z9, e9) h8) (fun h8 => Nat.le_trans hE0.1 h8)
  have hD : va_D (va_A [(sm, .inr (3, [.int (nI d), .int (nI r), .int ld, .int pl, .ref so, .ref sq, .int li, .int tl, .int mo])), (so, .inl (cI, 4, .inl fo)), (sq, .inl (cI, 31, .inl fl))] s.heap.size) [(sm, .inr (3, [.int (nI d), .int (nI r), .int ld, .int pl, .ref so, .ref sq, .int li, .int tl, .int mo])), (so, .inl (cI, 4, .inl fo)), (sq, .inl (cI, 31, .inl fl))] := hD0.self
  have hA : ∀ z9 : Nat, s.heap.size ≤ z9 → va_A [(sm, .inr (3, [.int (nI d), .int (nI r), .int ld, .int pl, .ref so, .ref sq, .int li, .int tl, .int mo])), (so, .inl (cI, 4, .inl fo)), (sq, .inl (cI, 31, .inl fl))] s.heap.size z9 := fun z9 h9 => Or.inr h9
  generalize hAe : va_A [(sm, .inr (3, [.int (nI d), .int (nI r), .int ld, .int pl, .ref so, .ref sq, .int li, .int tl, .int mo])), (so, .inl (cI, 4, .inl fo)), (sq, .inl (cI, 31, .inl fl))] s.heap.size = A at hD hAL hA ⊢
  have hS : va_S A s.heap s.heap [] := va_S.rf
  have hiX3 : ∀ w ∈ u_ws RX3 TX3 9, w ∈ wsX3_move := by decide +kernel
  have hl := lv_entry ([.ref sm, .int (nI n), .int tu, .int ou]) (n := 7) (Nat.le_of_ble_eq_true rfl)
  rw [lg_entry_eq]
  generalize (lg_sl ([.ref sm, .int (nI n), .int tu, .int ou]) ++ List.replicate (7 - (lg_sl ([.ref sm, .int (nI n), .int tu, .int ou])).length) Slot.unset).toArray = ls at hl ⊢
  have hl : lv_has ls 7 [(0, .ref sm), (1, .int (nI n)), (2, .int tu), (3, .int ou)] := hl
  have loop : ∀ (j : Nat) (k : Nat) (dk : Nat) (rk : Nat) (H : Heap) (locs : List Loc) (ls : Array Slot), k + j = n → dk < 8 → (3 ≤ rk ∧ rk ≤ 30) → (k + (mvN (fun a b => safS fo fl pl ld a b) fd fr j dk rk).1 = (mvN (fun a b => safS fo fl pl ld a b) fd fr n d r).1 ∧ (mvN (fun a b => safS fo fl pl ld a b) fd fr j dk rk).2 = (mvN (fun a b => safS fo fl pl ld a b) fd fr n d r).2) → lv_has ls 7 [(4, .int (nI k)), (0, .ref sm), (1, .int (nI n)), (2, .int tu), (3, .int ou)] → va_P D vwCl [(sm, .inr (3, [.int (nI dk), .int (nI rk), .int ld, .int pl, .ref so, .ref sq, .int li, .int tl, .int (mvI ld mo k)])), (so, .inl (cI, 4, .inl fo)), (sq, .inl (cI, 31, .inl fl))] H → va_D A [(sm, .inr (3, [.int (nI dk), .int (nI rk), .int ld, .int pl, .ref so, .ref sq, .int li, .int tl, .int (mvI ld mo k)])), (so, .inl (cI, 4, .inl fo)), (sq, .inl (cI, 31, .inl fl))] → va_S A s.heap H locs → W p l e (headSpec wsX3_move ({ frames := 4, cells := 150, slots := 1050, locals := 81 })).room s m ([.ref sm, .int (nI n), .int tu, .int ou]).toArray below meth c H locs (5 * k) (35 * k) (MQ below (cB (some (.int (nI (mvN (fun a b => safS fo fl pl ld a b) fd fr n d r).1))) (fun H => va_P D vwCl [(sm, .inr (3, [.int (nI (mvN (fun a b => safS fo fl pl ld a b) fd fr n d r).2.1), .int (nI (mvN (fun a b => safS fo fl pl ld a b) fd fr n d r).2.2), .int ld, .int pl, .ref so, .ref sq, .int li, .int tl, .int (mvI ld mo (mvN (fun a b => safS fo fl pl ld a b) fd fr n d r).1)])), (so, .inl (cI, 4, .inl fo)), (sq, .inl (cI, 31, .inl fl))] H) A) ([.ref sm, .int (nI n), .int tu, .int ou]).toArray s 150 1050 A) (F0 m 3 ls []) := by
    intro j
    induction j with
    | zero =>
      intro k dk rk H locs ls hn hdk hrk hG hl hP hD hS
      have hk : k = n := by omega
      refine lv_iload hx hb dX3_move_3 (lv_at hl 0 rfl) ?_
      refine lv_iload_n hx hb dX3_move_5 rfl (lv_at hl 2 rfl) ?_
      refine lv_icmp_ge (tgt := 101) hx hb dX3_move_6 (by decide) (fun _ => ?_) (fun c_6 => absurd (by rw [hk]; exact Int32.le_refl _) c_6)
      refine lv_iload_n hx hb dX3_move_101 rfl (lv_at hl 2 rfl) ?_
      refine c_top (show (nI n) = nI k from by rw [hk]) ?_
      have hG1 : (mvN (fun a b => safS fo fl pl ld a b) fd fr n d r).1 = k := by rw [← hG.1]; rfl
      have hG2 : (mvN (fun a b => safS fo fl pl ld a b) fd fr n d r).2 = (dk, rk) := by rw [← hG.2]; rfl
      have hP : va_P D vwCl [(sm, .inr (3, [.int (nI (mvN (fun a b => safS fo fl pl ld a b) fd fr n d r).2.1), .int (nI (mvN (fun a b => safS fo fl pl ld a b) fd fr n d r).2.2), .int ld, .int pl, .ref so, .ref sq, .int li, .int tl, .int (mvI ld mo (mvN (fun a b => safS fo fl pl ld a b) fd fr n d r).1)])), (so, .inl (cI, 4, .inl fo)), (sq, .inl (cI, 31, .inl fl))] H := by rw [hG1, hG2]; exact hP
      refine W.widen (k := 150) (n := 1050) (by omega) (by omega) ?_
      exact W.iret (v := (nI k)) hx hb hRt (fun t ht hW => ⟨⟨by rw [hG1], by rw [ht]; exact hP⟩, hS.F ht⟩) hS.2.2 dX3_move_102
    | succ j ih =>
      intro k dk rk H locs ls hn hdk hrk hG hl hP hD hS
      refine lv_iload hx hb dX3_move_3 (lv_at hl 0 rfl) ?_
      refine lv_iload_n hx hb dX3_move_5 rfl (lv_at hl 2 rfl) ?_
      refine lv_icmp_ge (tgt := 101) hx hb dX3_move_6 (by decide) (fun c_7 => absurd c_7 (nI_ge (by omega) (by omega))) (fun _ => ?_)
      refine lv_aload_n hx hb dX3_move_9 rfl (lv_at hl 1 rfl) ?_
      refine va_get (D := D) (ci := 3) (v := .int (nI rk)) (C := RX3) (T := TX3) (N := 9) hx hb hts hiX3 hown hK hP 0 rfl rfl 1 (by decide) (hts (.fieldLink RX3 7 "CraneReachLaw$Sim" "reach" "I") (by decide +kernel)) (fun _ h9 => h9) rfl dX3_move_10 ?_
      refine lv_iload_n hx hb dX3_move_13 rfl (lv_at hl 4 rfl) ?_
      refine lv_iadd hx hb dX3_move_14 ?_
      refine c_top (show ((nI rk) + ou) = nI (fr rk) from (hou rk hrk).1) ?_
      refine lv_istore (lv' := [(5, .int (nI (fr rk))), (4, .int (nI k)), (0, .ref sm), (1, .int (nI n)), (2, .int tu), (3, .int ou)]) hx hb dX3_move_15 hl (by decide) rfl (fun ls hl => ?_)
      refine lv_aload_n hx hb dX3_move_17 rfl (lv_at hl 2 rfl) ?_
      refine va_get (D := D) (ci := 3) (v := .int (nI dk)) (C := RX3) (T := TX3) (N := 9) hx hb hts hiX3 hown hK hP 0 rfl rfl 0 (by decide) (hts (.fieldLink RX3 21 "CraneReachLaw$Sim" "direction" "I") (by decide +kernel)) (fun _ h9 => h9) rfl dX3_move_18 ?_
      refine lv_iload_n hx hb dX3_move_21 rfl (lv_at hl 4 rfl) ?_
      refine lv_iadd hx hb dX3_move_22 ?_
      refine lv_bipush (v := 8) hx hb dX3_move_23 (by decide) ?_
      refine lv_iadd hx hb dX3_move_25 ?_
      refine lv_bipush (v := 8) hx hb dX3_move_26 (by decide) ?_
      refine lv_irem hx hb dX3_move_28 (by decide) ?_
      refine c_top (show ((((nI dk) + tu) + 8) - (((nI dk) + tu) + 8) / 8 * 8) = nI (fd dk) from (htu dk hdk).1) ?_
      refine lv_istore (lv' := [(6, .int (nI (fd dk))), (5, .int (nI (fr rk))), (4, .int (nI k)), (0, .ref sm), (1, .int (nI n)), (2, .int tu), (3, .int ou)]) hx hb dX3_move_29 hl (by decide) rfl (fun ls hl => ?_)
      refine lv_iload hx hb dX3_move_31 (lv_at hl 1 rfl) ?_
      refine lv_iconst (v := 3) hx hb dX3_move_33 (by decide) ?_
      have hfr := (hou rk hrk).2
      by_cases cr : 3 ≤ fr rk ∧ fr rk ≤ 30
      · refine lv_icmp_lt (tgt := 59) hx hb dX3_move_34 (by decide) (fun c_10 => absurd c_10 (Int32.not_lt.mpr (nI_le (a := 3) cr.1 (by omega)))) (fun _ => ?_)
        refine lv_iload hx hb dX3_move_37 (lv_at hl 1 rfl) ?_
        refine lv_bipush (v := 30) hx hb dX3_move_39 (by decide) ?_
        refine lv_icmp_gt (tgt := 59) hx hb dX3_move_41 (by decide) (fun c_11 => absurd c_11 (Int32.not_lt.mpr (nI_le (b := 30) cr.2 (by decide)))) (fun _ => ?_)
        refine lv_aload_n hx hb dX3_move_44 rfl (lv_at hl 3 rfl) ?_
        refine lv_aload_n hx hb dX3_move_45 rfl (lv_at hl 3 rfl) ?_
        refine va_get (D := D) (ci := 3) (v := .int ld) (C := RX3) (T := TX3) (N := 9) hx hb hts hiX3 hown hK hP 0 rfl rfl 2 (by decide) (hts (.fieldLink RX3 24 "CraneReachLaw$Sim" "load" "I") (by decide +kernel)) (fun _ h9 => h9) rfl dX3_move_46 ?_
        refine lv_iload hx hb dX3_move_49 (lv_at hl 0 rfl) ?_
        refine lv_iload hx hb dX3_move_51 (lv_at hl 1 rfl) ?_
        have hPc := hP.sub (ws' := [(sm, .inr (3, [.int (nI dk), .int (nI rk), .int ld, .int pl, .ref so, .ref sq, .int li, .int tl, .int (mvI ld mo k)])), (so, .inl (cI, 4, .inl fo)), (sq, .inl (cI, 31, .inl fl))]) [0, 1, 2] rfl
        have hDc : va_D (fun q : Nat => L0 ≤ q) [(sm, .inr (3, [.int (nI dk), .int (nI rk), .int ld, .int pl, .ref so, .ref sq, .int li, .int tl, .int (mvI ld mo k)])), (so, .inl (cI, 4, .inl fo)), (sq, .inl (cI, 31, .inl fl))] := (hD.sub (ws' := [(sm, .inr (3, [.int (nI dk), .int (nI rk), .int ld, .int pl, .ref so, .ref sq, .int li, .int tl, .int (mvI ld mo k)])), (so, .inl (cI, 4, .inl fo)), (sq, .inl (cI, 31, .inl fl))]) [0, 1, 2] (by decide) rfl).weaken (fun _ z9 _ h9 => hAL _ h9)
        have hKc := hK.sub (tys' := [(cI, .int)]) [0] rfl
        have hFc := va_free (wc := [(sm, .inr (3, [.int (nI dk), .int (nI rk), .int ld, .int pl, .ref so, .ref sq, .int li, .int tl, .int (mvI ld mo k)])), (so, .inl (cI, 4, .inl fo)), (sq, .inl (cI, 31, .inl fl))]) hD hS hA [0, 1, 2] rfl
        refine c_callB (va_runV (As := [.int ld, .int (nI (fd dk)), .int (nI (fr rk))]) (rest := []) ⟨hx, hb, hml, hown, hts⟩ (s_isSafe l D L0 cI sm so sq dk rk ld pl li tl (mvI ld mo k) fo fl ld (fd dk) (fr rk) (htu dk hdk).2 cr _) (cwV 3 hts gX3_move_X3_isSafe_ rfl rfl rfl (by decide +kernel) ⟨Nat.le_of_ble_eq_true rfl, Nat.le_of_ble_eq_true rfl⟩) ⟨cPz_blind, va_recv hKc hPc (ci := 3) (q0 := 0) rfl rfl, cPz_of hPc hKc hDc (kE_at hE0 hAL hS)⟩ rfl rfl hl.1 rfl (lv_room (Nat.le_of_ble_eq_true rfl)) dX3_move_53 ⟨by show 5 * k + 5 ≤ 150; omega, by show 35 * k + 35 ≤ 1050; omega⟩) hS (fun z9 _ h9 => hFc z9 h9) hFc (fun H1 locs hB hz1 hk1 hS => ?_)
        obtain ⟨hP, hD⟩ := c_join (ws' := [(sm, .inr (3, [.int (nI dk), .int (nI rk), .int ld, .int pl, .ref so, .ref sq, .int li, .int tl, .int (mvI ld mo k)])), (so, .inl (cI, 4, .inl fo)), (sq, .inl (cI, 31, .inl fl))]) (wr := []) (w1 := [(sm, .inr (3, [.int (nI dk), .int (nI rk), .int ld, .int pl, .ref so, .ref sq, .int li, .int tl, .int (mvI ld mo k)])), (so, .inl (cI, 4, .inl fo)), (sq, .inl (cI, 31, .inl fl))]) hP hD [0, 1, 2] [] [0, 1, 2] rfl rfl (by decide) (by decide) (c_area hk1) hB rfl rfl rfl (by decide)
        generalize H1 = H at hP hS ⊢
        show W _ _ _ _ _ _ _ _ _ _ _ _ _ _ _ (F0 m 56 ls [.int (bI (safS fo fl pl ld (fd dk) (fr rk)))])
        obtain ⟨b_12, hbv_13⟩ : ∃ z9 : Bool, z9 = safS fo fl pl ld (fd dk) (fr rk) := ⟨_, rfl⟩
        refine c_top (show (bI (safS fo fl pl ld (fd dk) (fr rk))) = bI b_12 from by rw [hbv_13]) ?_
        refine lv_if_ne (tgt := 62) hx hb dX3_move_56 (by decide) (fun c_14 => ?_) (fun c_14 => ?_)
        · have hs : safS fo fl pl ld (fd dk) (fr rk) = true := by rw [← hbv_13]; cases b_12 with | true => rfl | false => exact absurd rfl c_14
          refine lv_aload_n hx hb dX3_move_62 rfl (lv_at hl 3 rfl) ?_
          refine lv_iload hx hb dX3_move_63 (lv_at hl 0 rfl) ?_
          refine va_put (D := D) (ci := 3) (v := .int (nI (fd dk))) (ty := .int) (C := RX3) (T := TX3) (N := 9) hx hb hts hiX3 tyX3 tyX3_ok nmX3 hown hK hP hD hS 0 rfl rfl 0 (by decide) (hts (.fieldLink RX3 21 "CraneReachLaw$Sim" "direction" "I") (by decide +kernel)) (fun _ h9 => h9) rfl (by decide +kernel) rfl rfl (Nat.le_of_ble_eq_true rfl) dX3_move_65 (fun H locs hP hD hS => ?_)
          have hP : va_P D vwCl [(sm, .inr (3, [.int (nI (fd dk)), .int (nI rk), .int ld, .int pl, .ref so, .ref sq, .int li, .int tl, .int (mvI ld mo k)])), (so, .inl (cI, 4, .inl fo)), (sq, .inl (cI, 31, .inl fl))] H := hP
          have hD : va_D A [(sm, .inr (3, [.int (nI (fd dk)), .int (nI rk), .int ld, .int pl, .ref so, .ref sq, .int li, .int tl, .int (mvI ld mo k)])), (so, .inl (cI, 4, .inl fo)), (sq, .inl (cI, 31, .inl fl))] := hD
          refine lv_aload_n hx hb dX3_move_68 rfl (lv_at hl 3 rfl) ?_
          refine lv_iload hx hb dX3_move_69 (lv_at hl 1 rfl) ?_
          refine va_put (D := D) (ci := 3) (v := .int (nI (fr rk))) (ty := .int) (C := RX3) (T := TX3) (N := 9) hx hb hts hiX3 tyX3 tyX3_ok nmX3 hown hK hP hD hS 0 rfl rfl 1 (by decide) (hts (.fieldLink RX3 7 "CraneReachLaw$Sim" "reach" "I") (by decide +kernel)) (fun _ h9 => h9) rfl (by decide +kernel) rfl rfl (Nat.le_of_ble_eq_true rfl) dX3_move_71 (fun H locs hP hD hS => ?_)
          have hP : va_P D vwCl [(sm, .inr (3, [.int (nI (fd dk)), .int (nI (fr rk)), .int ld, .int pl, .ref so, .ref sq, .int li, .int tl, .int (mvI ld mo k)])), (so, .inl (cI, 4, .inl fo)), (sq, .inl (cI, 31, .inl fl))] H := hP
          have hD : va_D A [(sm, .inr (3, [.int (nI (fd dk)), .int (nI (fr rk)), .int ld, .int pl, .ref so, .ref sq, .int li, .int tl, .int (mvI ld mo k)])), (so, .inl (cI, 4, .inl fo)), (sq, .inl (cI, 31, .inl fl))] := hD
          refine lv_aload_n hx hb dX3_move_74 rfl (lv_at hl 3 rfl) ?_
          refine lv_dup hx hb dX3_move_75 rfl ?_
          refine va_get (D := D) (ci := 3) (v := .int (mvI ld mo k)) (C := RX3) (T := TX3) (N := 9) hx hb hts hiX3 hown hK hP 0 rfl rfl 8 (by decide) (hts (.fieldLink RX3 41 "CraneReachLaw$Sim" "moves" "I") (by decide +kernel)) (fun _ h9 => h9) rfl dX3_move_76 ?_
          refine lv_aload_n hx hb dX3_move_79 rfl (lv_at hl 3 rfl) ?_
          refine va_get (D := D) (ci := 3) (v := .int ld) (C := RX3) (T := TX3) (N := 9) hx hb hts hiX3 hown hK hP 0 rfl rfl 2 (by decide) (hts (.fieldLink RX3 24 "CraneReachLaw$Sim" "load" "I") (by decide +kernel)) (fun _ h9 => h9) rfl dX3_move_80 ?_
          refine lv_if_le (tgt := 90) hx hb dX3_move_83 (by decide) (fun c_15 => ?_) (fun c_15 => ?_)
          · refine lv_iconst (v := 0) hx hb dX3_move_90 (by decide) ?_
            refine lv_iadd hx hb dX3_move_91 ?_
            refine c_top (show ((mvI ld mo k) + 0) = mvI ld mo (k + 1) from by rw [← mvI_s, if_neg (i_len c_15)]) ?_
            refine va_put (D := D) (ci := 3) (v := .int (mvI ld mo (k + 1))) (ty := .int) (C := RX3) (T := TX3) (N := 9) hx hb hts hiX3 tyX3 tyX3_ok nmX3 hown hK hP hD hS 0 rfl rfl 8 (by decide) (hts (.fieldLink RX3 41 "CraneReachLaw$Sim" "moves" "I") (by decide +kernel)) (fun _ h9 => h9) rfl (by decide +kernel) rfl rfl (Nat.le_of_ble_eq_true rfl) dX3_move_92 (fun H locs hP hD hS => ?_)
            have hP : va_P D vwCl [(sm, .inr (3, [.int (nI (fd dk)), .int (nI (fr rk)), .int ld, .int pl, .ref so, .ref sq, .int li, .int tl, .int (mvI ld mo (k + 1))])), (so, .inl (cI, 4, .inl fo)), (sq, .inl (cI, 31, .inl fl))] H := hP
            have hD : va_D A [(sm, .inr (3, [.int (nI (fd dk)), .int (nI (fr rk)), .int ld, .int pl, .ref so, .ref sq, .int li, .int tl, .int (mvI ld mo (k + 1))])), (so, .inl (cI, 4, .inl fo)), (sq, .inl (cI, 31, .inl fl))] := hD
            refine lv_iinc (v := (nI k) + 1) (lv' := [(4, .int ((nI k) + 1)), (6, .int (nI (fd dk))), (5, .int (nI (fr rk))), (0, .ref sm), (1, .int (nI n)), (2, .int tu), (3, .int ou)]) hx hb dX3_move_95 hl (k := 2) rfl rfl (by decide) rfl (fun ls hl => ?_)
            refine lv_goto (tgt := 3) hx hb dX3_move_98 (by decide) ?_
            have hl : lv_has ls 7 [(4, .int (nI (k + 1))), (6, .int (nI (fd dk))), (5, .int (nI (fr rk))), (0, .ref sm), (1, .int (nI n)), (2, .int tu), (3, .int ou)] := (show (nI k) + 1 = nI (k + 1) from nI_1 k) ▸ hl
            refine W.widen (k := 5 * (k + 1)) (n := 35 * (k + 1)) (by omega) (by omega) ?_
            exact ih (k + 1) (fd dk) (fr rk) _ _ _ (by omega) ((htu dk hdk).2) cr (by rw [mvN, if_pos ⟨cr, hs⟩] at hG; exact ⟨by rw [← hG.1]; exact (Nat.add_right_comm k 1 _).trans (Nat.add_assoc k _ 1), hG.2⟩) (lv_sub hl [0, 3, 4, 5, 6] rfl) hP hD hS
          · refine lv_iconst (v := 1) hx hb dX3_move_86 (by decide) ?_
            refine lv_goto (tgt := 91) hx hb dX3_move_87 (by decide) ?_
            refine lv_iadd hx hb dX3_move_91 ?_
            refine c_top (show ((mvI ld mo k) + 1) = mvI ld mo (k + 1) from by rw [← mvI_s, if_pos (i_nle c_15)]) ?_
            refine va_put (D := D) (ci := 3) (v := .int (mvI ld mo (k + 1))) (ty := .int) (C := RX3) (T := TX3) (N := 9) hx hb hts hiX3 tyX3 tyX3_ok nmX3 hown hK hP hD hS 0 rfl rfl 8 (by decide) (hts (.fieldLink RX3 41 "CraneReachLaw$Sim" "moves" "I") (by decide +kernel)) (fun _ h9 => h9) rfl (by decide +kernel) rfl rfl (Nat.le_of_ble_eq_true rfl) dX3_move_92 (fun H locs hP hD hS => ?_)
            have hP : va_P D vwCl [(sm, .inr (3, [.int (nI (fd dk)), .int (nI (fr rk)), .int ld, .int pl, .ref so, .ref sq, .int li, .int tl, .int (mvI ld mo (k + 1))])), (so, .inl (cI, 4, .inl fo)), (sq, .inl (cI, 31, .inl fl))] H := hP
            have hD : va_D A [(sm, .inr (3, [.int (nI (fd dk)), .int (nI (fr rk)), .int ld, .int pl, .ref so, .ref sq, .int li, .int tl, .int (mvI ld mo (k + 1))])), (so, .inl (cI, 4, .inl fo)), (sq, .inl (cI, 31, .inl fl))] := hD
            refine lv_iinc (v := (nI k) + 1) (lv' := [(4, .int ((nI k) + 1)), (6, .int (nI (fd dk))), (5, .int (nI (fr rk))), (0, .ref sm), (1, .int (nI n)), (2, .int tu), (3, .int ou)]) hx hb dX3_move_95 hl (k := 2) rfl rfl (by decide) rfl (fun ls hl => ?_)
            refine lv_goto (tgt := 3) hx hb dX3_move_98 (by decide) ?_
            have hl : lv_has ls 7 [(4, .int (nI (k + 1))), (6, .int (nI (fd dk))), (5, .int (nI (fr rk))), (0, .ref sm), (1, .int (nI n)), (2, .int tu), (3, .int ou)] := (show (nI k) + 1 = nI (k + 1) from nI_1 k) ▸ hl
            refine W.widen (k := 5 * (k + 1)) (n := 35 * (k + 1)) (by omega) (by omega) ?_
            exact ih (k + 1) (fd dk) (fr rk) _ _ _ (by omega) ((htu dk hdk).2) cr (by rw [mvN, if_pos ⟨cr, hs⟩] at hG; exact ⟨by rw [← hG.1]; exact (Nat.add_right_comm k 1 _).trans (Nat.add_assoc k _ 1), hG.2⟩) (lv_sub hl [0, 3, 4, 5, 6] rfl) hP hD hS
        · have hs : safS fo fl pl ld (fd dk) (fr rk) = false := by rw [← hbv_13]; cases b_12 with | false => rfl | true => exact absurd c_14 (by decide)
          refine lv_iload hx hb dX3_move_59 (lv_at hl 2 rfl) ?_
          have hG1 : (mvN (fun a b => safS fo fl pl ld a b) fd fr n d r).1 = k := by rw [← hG.1, mvN, if_neg (fun z => by have z2 : safS fo fl pl ld (fd dk) (fr rk) = true := z.2; rw [hs] at z2; exact absurd z2 (by decide))]; rfl
          have hG2 : (mvN (fun a b => safS fo fl pl ld a b) fd fr n d r).2 = (dk, rk) := by rw [← hG.2, mvN, if_neg (fun z => by have z2 : safS fo fl pl ld (fd dk) (fr rk) = true := z.2; rw [hs] at z2; exact absurd z2 (by decide))]
          have hP : va_P D vwCl [(sm, .inr (3, [.int (nI (mvN (fun a b => safS fo fl pl ld a b) fd fr n d r).2.1), .int (nI (mvN (fun a b => safS fo fl pl ld a b) fd fr n d r).2.2), .int ld, .int pl, .ref so, .ref sq, .int li, .int tl, .int (mvI ld mo (mvN (fun a b => safS fo fl pl ld a b) fd fr n d r).1)])), (so, .inl (cI, 4, .inl fo)), (sq, .inl (cI, 31, .inl fl))] H := by rw [hG1, hG2]; exact hP
          refine W.widen (k := 150) (n := 1050) (by omega) (by omega) ?_
          exact W.iret (v := (nI k)) hx hb hRt (fun t ht hW => ⟨⟨by rw [hG1], by rw [ht]; exact hP⟩, hS.F ht⟩) hS.2.2 dX3_move_61
      · refine lv_icmp_lt (tgt := 59) hx hb dX3_move_34 (by decide) (fun c_8 => ?_) (fun c_8 => ?_)
        · refine lv_iload hx hb dX3_move_59 (lv_at hl 2 rfl) ?_
          have hG1 : (mvN (fun a b => safS fo fl pl ld a b) fd fr n d r).1 = k := by rw [← hG.1, mvN, if_neg (fun z => cr z.1)]; rfl
          have hG2 : (mvN (fun a b => safS fo fl pl ld a b) fd fr n d r).2 = (dk, rk) := by rw [← hG.2, mvN, if_neg (fun z => cr z.1)]
          have hP : va_P D vwCl [(sm, .inr (3, [.int (nI (mvN (fun a b => safS fo fl pl ld a b) fd fr n d r).2.1), .int (nI (mvN (fun a b => safS fo fl pl ld a b) fd fr n d r).2.2), .int ld, .int pl, .ref so, .ref sq, .int li, .int tl, .int (mvI ld mo (mvN (fun a b => safS fo fl pl ld a b) fd fr n d r).1)])), (so, .inl (cI, 4, .inl fo)), (sq, .inl (cI, 31, .inl fl))] H := by rw [hG1, hG2]; exact hP
          refine W.widen (k := 150) (n := 1050) (by omega) (by omega) ?_
          exact W.iret (v := (nI k)) hx hb hRt (fun t ht hW => ⟨⟨by rw [hG1], by rw [ht]; exact hP⟩, hS.F ht⟩) hS.2.2 dX3_move_61
        · have h3r : 3 ≤ fr rk := by
            rcases Nat.lt_or_ge (fr rk) 3 with z | z
            · exact absurd (nI_lt (b := 3) z (by decide)) c_8
            · exact z
          refine lv_iload hx hb dX3_move_37 (lv_at hl 1 rfl) ?_
          refine lv_bipush (v := 30) hx hb dX3_move_39 (by decide) ?_
          refine lv_icmp_gt (tgt := 59) hx hb dX3_move_41 (by decide) (fun _ => ?_) (fun c_9 => absurd (nI_lt (a := 30) (by omega) (by omega)) c_9)
          refine lv_iload hx hb dX3_move_59 (lv_at hl 2 rfl) ?_
          have hG1 : (mvN (fun a b => safS fo fl pl ld a b) fd fr n d r).1 = k := by rw [← hG.1, mvN, if_neg (fun z => cr z.1)]; rfl
          have hG2 : (mvN (fun a b => safS fo fl pl ld a b) fd fr n d r).2 = (dk, rk) := by rw [← hG.2, mvN, if_neg (fun z => cr z.1)]
          have hP : va_P D vwCl [(sm, .inr (3, [.int (nI (mvN (fun a b => safS fo fl pl ld a b) fd fr n d r).2.1), .int (nI (mvN (fun a b => safS fo fl pl ld a b) fd fr n d r).2.2), .int ld, .int pl, .ref so, .ref sq, .int li, .int tl, .int (mvI ld mo (mvN (fun a b => safS fo fl pl ld a b) fd fr n d r).1)])), (so, .inl (cI, 4, .inl fo)), (sq, .inl (cI, 31, .inl fl))] H := by rw [hG1, hG2]; exact hP
          refine W.widen (k := 150) (n := 1050) (by omega) (by omega) ?_
          exact W.iret (v := (nI k)) hx hb hRt (fun t ht hW => ⟨⟨by rw [hG1], by rw [ht]; exact hP⟩, hS.F ht⟩) hS.2.2 dX3_move_61
  refine lv_iconst (v := 0) hx hb dX3_move_0 (by decide) ?_
  refine lv_istore (lv' := [(4, .int 0), (0, .ref sm), (1, .int (nI n)), (2, .int tu), (3, .int ou)]) hx hb dX3_move_1 hl (by decide) rfl (fun ls hl => ?_)
  have hl : lv_has ls 7 [(4, .int (nI 0)), (0, .ref sm), (1, .int (nI n)), (2, .int tu), (3, .int ou)] := (show 0 = nI 0 from rfl) ▸ hl
  have hP : va_P D vwCl [(sm, .inr (3, [.int (nI d), .int (nI r), .int ld, .int pl, .ref so, .ref sq, .int li, .int tl, .int (mvI ld mo 0)])), (so, .inl (cI, 4, .inl fo)), (sq, .inl (cI, 31, .inl fl))] s.heap := by rw [mvI_0]; exact hP
  have hD : va_D A [(sm, .inr (3, [.int (nI d), .int (nI r), .int ld, .int pl, .ref so, .ref sq, .int li, .int tl, .int (mvI ld mo 0)])), (so, .inl (cI, 4, .inl fo)), (sq, .inl (cI, 31, .inl fl))] := by rw [mvI_0]; exact hD
  exact loop n 0 d r _ _ _ (by omega) hd hr (⟨Nat.zero_add _, rfl⟩) (lv_sub hl [0, 1, 2, 3, 4] rfl) hP hD hS
