set_option maxHeartbeats 4000000 in
set_option maxRecDepth 100000 in
/-- with(its, d, r) -/
theorem s_with (l : Launch) (D : va_G) (L0 : Nat) (cI : ClassId) (sm so sq d r : Nat) (ld pl li tl mo : Int32) (fo fl : Nat → Int32) (its : Int32) (d2 r2 : Nat) (sz : Nat) : Met l yX3_with wsX3_with ({ frames := 3, cells := 5, slots := 79, locals := 54 }) (cPz L0 D [(cI, .int)] [(sm, .inr (3, [.int (nI d), .int (nI r), .int ld, .int pl, .ref so, .ref sq, .int li, .int tl, .int mo])), (so, .inl (cI, 4, .inl fo)), (sq, .inl (cI, 31, .inl fl))] [.ref sm, .int its, .int (nI d2), .int (nI r2)] sz) (cO (fun o H => ∃ oo oq : Nat, va_P D vwCl [(sm, .inr (3, [.int (nI d), .int (nI r), .int ld, .int pl, .ref so, .ref sq, .int li, .int tl, .int mo])), (so, .inl (cI, 4, .inl fo)), (sq, .inl (cI, 31, .inl fl)), (o, .inr (3, [.int (nI d2), .int (nI r2), .int its, .int pl, .ref oo, .ref oq, .int li, .int tl, .int mo])), (oo, .inl (cI, 4, .inl fo)), (oq, .inl (cI, 31, .inl fl))] H ∧ va_D (va_A [(sm, .inr (3, [.int (nI d), .int (nI r), .int ld, .int pl, .ref so, .ref sq, .int li, .int tl, .int mo])), (so, .inl (cI, 4, .inl fo)), (sq, .inl (cI, 31, .inl fl))] sz) [(sm, .inr (3, [.int (nI d), .int (nI r), .int ld, .int pl, .ref so, .ref sq, .int li, .int tl, .int mo])), (so, .inl (cI, 4, .inl fo)), (sq, .inl (cI, 31, .inl fl)), (o, .inr (3, [.int (nI d2), .int (nI r2), .int its, .int pl, .ref oo, .ref oq, .int li, .int tl, .int mo])), (oo, .inl (cI, 4, .inl fo)), (oq, .inl (cI, 31, .inl fl))]) (va_A [(sm, .inr (3, [.int (nI d), .int (nI r), .int ld, .int pl, .ref so, .ref sq, .int li, .int tl, .int mo])), (so, .inl (cI, 4, .inl fo)), (sq, .inl (cI, 31, .inl fl))] sz)) 5 79 (va_A [(sm, .inr (3, [.int (nI d), .int (nI r), .int ld, .int pl, .ref so, .ref sq, .int li, .int tl, .int mo])), (so, .inl (cI, 4, .inl fo)), (sq, .inl (cI, 31, .inl fl))] sz) := by
  refine Met.ofW (cc := cX3_with) (maxL := 5) (ret := (some (.object "CraneReachLaw$Sim"))) (by decide) rfl ?_
  intro p e s m args below meth c s₁ B hml hv
  obtain ⟨⟨rfl, hP, hK, hD0, hE0⟩, rfl⟩ := hv
  have hx := B.exec
  have hb := B.bytes
  have hRt := B.returns
  have hts := atoms_spec (ws := wsX3_with) B.pre
  have hown : s.vm.findClass RX3 = some m.cls := findClass_of_methodNamed B.named
  have hlocks := B.notSynchronized
  have hAL : ∀ z9 : Nat, va_A [(sm, .inr (3, [.int (nI d), .int (nI r), .int ld, .int pl, .ref so, .ref sq, .int li, .int tl, .int mo])), (so, .inl (cI, 4, .inl fo)), (sq, .inl (cI, 31, .inl fl))] s.heap.size z9 → L0 ≤ z9 := fun z9 h9 => h9.elim (fun ⟨k9, e9, h8⟩ => hD0.2 k9 (z9, e9) h8) (fun h8 => Nat.le_trans hE0.1 h8)
  have hD : va_D (va_A [(sm, .inr (3, [.int (nI d), .int (nI r), .int ld, .int pl, .ref so, .ref sq, .int li, .int tl, .int mo])), (so, .inl (cI, 4, .inl fo)), (sq, .inl (cI, 31, .inl fl))] s.heap.size) [(sm, .inr (3, [.int (nI d), .int (nI r), .int ld, .int pl, .ref so, .ref sq, .int li, .int tl, .int mo])), (so, .inl (cI, 4, .inl fo)), (sq, .inl (cI, 31, .inl fl))] := hD0.self
  have hA : ∀ z9 : Nat, s.heap.size ≤ z9 → va_A [(sm, .inr (3, [.int (nI d), .int (nI r), .int ld, .int pl, .ref so, .ref sq, .int li, .int tl, .int mo])), (so, .inl (cI, 4, .inl fo)), (sq, .inl (cI, 31, .inl fl))] s.heap.size z9 := fun z9 h9 => Or.inr h9
  generalize hAe : va_A [(sm, .inr (3, [.int (nI d), .int (nI r), .int ld, .int pl, .ref so, .ref sq, .int li, .int tl, .int mo])), (so, .inl (cI, 4, .inl fo)), (sq, .inl (cI, 31, .inl fl))] s.heap.size = A at hD hAL hA ⊢
  have hS : va_S A s.heap s.heap [] := va_S.rf
  have hiX3 : ∀ w ∈ u_ws RX3 TX3 9, w ∈ wsX3_with := by decide +kernel
  have hl := lv_entry ([.ref sm, .int its, .int (nI d2), .int (nI r2)]) (n := 5) (Nat.le_of_ble_eq_true rfl)
  rw [lg_entry_eq]
  generalize (lg_sl ([.ref sm, .int its, .int (nI d2), .int (nI r2)]) ++ List.replicate (5 - (lg_sl ([.ref sm, .int its, .int (nI d2), .int (nI r2)])).length) Slot.unset).toArray = ls at hl ⊢
  have hl : lv_has ls 5 [(0, .ref sm), (1, .int its), (2, .int (nI d2)), (3, .int (nI r2))] := hl
  refine lv_aload_n hx hb dX3_with_0 rfl (lv_at hl 0 rfl) ?_
  have hPc := hP.sub (ws' := [(sm, .inr (3, [.int (nI d), .int (nI r), .int ld, .int pl, .ref so, .ref sq, .int li, .int tl, .int mo])), (so, .inl (cI, 4, .inl fo)), (sq, .inl (cI, 31, .inl fl))]) [0, 1, 2] rfl
  have hDc : va_D (fun q : Nat => L0 ≤ q) [(sm, .inr (3, [.int (nI d), .int (nI r), .int ld, .int pl, .ref so, .ref sq, .int li, .int tl, .int mo])), (so, .inl (cI, 4, .inl fo)), (sq, .inl (cI, 31, .inl fl))] := (hD.sub (ws' := [(sm, .inr (3, [.int (nI d), .int (nI r), .int ld, .int pl, .ref so, .ref sq, .int li, .int tl, .int mo])), (so, .inl (cI, 4, .inl fo)), (sq, .inl (cI, 31, .inl fl))]) [0, 1, 2] (by decide) rfl).weaken (fun _ z9 _ h9 => hAL _ h9)
  have hKc := hK.sub (tys' := [(cI, .int)]) [0] rfl
  have hFc := va_free (wc := [(sm, .inr (3, [.int (nI d), .int (nI r), .int ld, .int pl, .ref so, .ref sq, .int li, .int tl, .int mo])), (so, .inl (cI, 4, .inl fo)), (sq, .inl (cI, 31, .inl fl))]) hD hS hA [0, 1, 2] rfl
  refine c_callO (va_runV (As := []) (rest := []) ⟨hx, hb, hml, hown, hts⟩ (s_copy l D L0 cI sm so sq d r ld pl li tl mo fo fl _) (cwV 0 hts gX3_with_X3_copy rfl rfl rfl (by decide +kernel) ⟨Nat.le_of_ble_eq_true rfl, Nat.le_of_ble_eq_true rfl⟩) ⟨cPz_blind, va_recv hKc hPc (ci := 3) (q0 := 0) rfl rfl, cPz_of hPc hKc hDc (kE_at hE0 hAL hS)⟩ rfl rfl hl.1 rfl (lv_room (Nat.le_of_ble_eq_true rfl)) dX3_with_1 ⟨Nat.le_of_ble_eq_true rfl, Nat.le_of_ble_eq_true rfl⟩) hS (fun z9 _ h9 => hFc z9 h9) hFc (fun o H1 locs hB hz1 hk1 hS => ?_)
  obtain ⟨oo, oq, hB⟩ := hB
  obtain ⟨hP, hD⟩ := va_join (wr := []) (w1 := [(sm, .inr (3, [.int (nI d), .int (nI r), .int ld, .int pl, .ref so, .ref sq, .int li, .int tl, .int mo])), (so, .inl (cI, 4, .inl fo)), (sq, .inl (cI, 31, .inl fl)), (o, .inr (3, [.int (nI d), .int (nI r), .int ld, .int pl, .ref oo, .ref oq, .int li, .int tl, .int mo])), (oo, .inl (cI, 4, .inl fo)), (oq, .inl (cI, 31, .inl fl))]) hP hD [0, 1, 2] [] rfl rfl (by decide) (by decide) hk1 hFc hB.1 hB.2
  generalize H1 = H at hP hS ⊢
  have hP := hP.sub (ws' := [(sm, .inr (3, [.int (nI d), .int (nI r), .int ld, .int pl, .ref so, .ref sq, .int li, .int tl, .int mo])), (so, .inl (cI, 4, .inl fo)), (sq, .inl (cI, 31, .inl fl)), (o, .inr (3, [.int (nI d), .int (nI r), .int ld, .int pl, .ref oo, .ref oq, .int li, .int tl, .int mo])), (oo, .inl (cI, 4, .inl fo)), (oq, .inl (cI, 31, .inl fl))]) [0, 1, 2, 3, 4, 5] rfl
  have hD := hD.sub (ws' := [(sm, .inr (3, [.int (nI d), .int (nI r), .int ld, .int pl, .ref so, .ref sq, .int li, .int tl, .int mo])), (so, .inl (cI, 4, .inl fo)), (sq, .inl (cI, 31, .inl fl)), (o, .inr (3, [.int (nI d), .int (nI r), .int ld, .int pl, .ref oo, .ref oq, .int li, .int tl, .int mo])), (oo, .inl (cI, 4, .inl fo)), (oq, .inl (cI, 31, .inl fl))]) [0, 1, 2, 3, 4, 5] (by decide) rfl
  show W _ _ _ _ _ _ _ _ _ _ _ _ _ _ _ (F0 m 4 ls [.ref o])
  refine lv_astore (lv' := [(4, .ref o), (0, .ref sm), (1, .int its), (2, .int (nI d2)), (3, .int (nI r2))]) hx hb dX3_with_4 hl (by decide) rfl (fun ls hl => ?_)
  refine lv_aload hx hb dX3_with_6 (lv_at hl 0 rfl) ?_
  refine lv_iload_n hx hb dX3_with_8 rfl (lv_at hl 2 rfl) ?_
  refine va_put (D := D) (ci := 3) (v := .int its) (ty := .int) (C := RX3) (T := TX3) (N := 9) hx hb hts hiX3 tyX3 tyX3_ok nmX3 hown hK hP hD hS 3 rfl rfl 2 (by decide) (hts (.fieldLink RX3 24 "CraneReachLaw$Sim" "load" "I") (by decide +kernel)) (fun _ h9 => h9) rfl (by decide +kernel) rfl rfl (Nat.le_of_ble_eq_true rfl) dX3_with_9 (fun H locs hP hD hS => ?_)
  have hP : va_P D vwCl [(sm, .inr (3, [.int (nI d), .int (nI r), .int ld, .int pl, .ref so, .ref sq, .int li, .int tl, .int mo])), (so, .inl (cI, 4, .inl fo)), (sq, .inl (cI, 31, .inl fl)), (o, .inr (3, [.int (nI d), .int (nI r), .int its, .int pl, .ref oo, .ref oq, .int li, .int tl, .int mo])), (oo, .inl (cI, 4, .inl fo)), (oq, .inl (cI, 31, .inl fl))] H := hP
  have hD : va_D A [(sm, .inr (3, [.int (nI d), .int (nI r), .int ld, .int pl, .ref so, .ref sq, .int li, .int tl, .int mo])), (so, .inl (cI, 4, .inl fo)), (sq, .inl (cI, 31, .inl fl)), (o, .inr (3, [.int (nI d), .int (nI r), .int its, .int pl, .ref oo, .ref oq, .int li, .int tl, .int mo])), (oo, .inl (cI, 4, .inl fo)), (oq, .inl (cI, 31, .inl fl))] := hD
  refine lv_aload hx hb dX3_with_12 (lv_at hl 0 rfl) ?_
  refine lv_iload_n hx hb dX3_with_14 rfl (lv_at hl 3 rfl) ?_
  refine va_put (D := D) (ci := 3) (v := .int (nI d2)) (ty := .int) (C := RX3) (T := TX3) (N := 9) hx hb hts hiX3 tyX3 tyX3_ok nmX3 hown hK hP hD hS 3 rfl rfl 0 (by decide) (hts (.fieldLink RX3 21 "CraneReachLaw$Sim" "direction" "I") (by decide +kernel)) (fun _ h9 => h9) rfl (by decide +kernel) rfl rfl (Nat.le_of_ble_eq_true rfl) dX3_with_15 (fun H locs hP hD hS => ?_)
  have hP : va_P D vwCl [(sm, .inr (3, [.int (nI d), .int (nI r), .int ld, .int pl, .ref so, .ref sq, .int li, .int tl, .int mo])), (so, .inl (cI, 4, .inl fo)), (sq, .inl (cI, 31, .inl fl)), (o, .inr (3, [.int (nI d2), .int (nI r), .int its, .int pl, .ref oo, .ref oq, .int li, .int tl, .int mo])), (oo, .inl (cI, 4, .inl fo)), (oq, .inl (cI, 31, .inl fl))] H := hP
  have hD : va_D A [(sm, .inr (3, [.int (nI d), .int (nI r), .int ld, .int pl, .ref so, .ref sq, .int li, .int tl, .int mo])), (so, .inl (cI, 4, .inl fo)), (sq, .inl (cI, 31, .inl fl)), (o, .inr (3, [.int (nI d2), .int (nI r), .int its, .int pl, .ref oo, .ref oq, .int li, .int tl, .int mo])), (oo, .inl (cI, 4, .inl fo)), (oq, .inl (cI, 31, .inl fl))] := hD
  refine lv_aload hx hb dX3_with_18 (lv_at hl 0 rfl) ?_
  refine lv_iload_n hx hb dX3_with_20 rfl (lv_at hl 4 rfl) ?_
  refine va_put (D := D) (ci := 3) (v := .int (nI r2)) (ty := .int) (C := RX3) (T := TX3) (N := 9) hx hb hts hiX3 tyX3 tyX3_ok nmX3 hown hK hP hD hS 3 rfl rfl 1 (by decide) (hts (.fieldLink RX3 7 "CraneReachLaw$Sim" "reach" "I") (by decide +kernel)) (fun _ h9 => h9) rfl (by decide +kernel) rfl rfl (Nat.le_of_ble_eq_true rfl) dX3_with_21 (fun H locs hP hD hS => ?_)
  have hP : va_P D vwCl [(sm, .inr (3, [.int (nI d), .int (nI r), .int ld, .int pl, .ref so, .ref sq, .int li, .int tl, .int mo])), (so, .inl (cI, 4, .inl fo)), (sq, .inl (cI, 31, .inl fl)), (o, .inr (3, [.int (nI d2), .int (nI r2), .int its, .int pl, .ref oo, .ref oq, .int li, .int tl, .int mo])), (oo, .inl (cI, 4, .inl fo)), (oq, .inl (cI, 31, .inl fl))] H := hP
  have hD : va_D A [(sm, .inr (3, [.int (nI d), .int (nI r), .int ld, .int pl, .ref so, .ref sq, .int li, .int tl, .int mo])), (so, .inl (cI, 4, .inl fo)), (sq, .inl (cI, 31, .inl fl)), (o, .inr (3, [.int (nI d2), .int (nI r2), .int its, .int pl, .ref oo, .ref oq, .int li, .int tl, .int mo])), (oo, .inl (cI, 4, .inl fo)), (oq, .inl (cI, 31, .inl fl))] := hD
  refine lv_aload hx hb dX3_with_24 (lv_at hl 0 rfl) ?_
  refine W.widen (k := 5) (n := 79) (Nat.le_of_ble_eq_true rfl) (Nat.le_of_ble_eq_true rfl) ?_
  exact W.aret (v := .ref o) hx hb hRt (Or.inl ⟨_, rfl⟩) (Or.inr ⟨_, rfl⟩) (fun t ht hW => ⟨⟨o, rfl, by rw [ht]; exact ⟨_, _, hP, hD⟩⟩, hS.F ht⟩) hS.2.2 dX3_with_26
set_option maxHeartbeats 4000000 in
set_option maxRecDepth 100000 in
/-- below(v, n) -/
theorem l_below (l : Launch) (D : va_G) (L0 : Nat) (v n : Int32) (hn : ¬ n = 0) : Met l yL_below wsL_below ({ frames := 0, cells := 0, slots := 0, locals := 0 }) (cP L0 D [] [] [.int v, .int n]) (cR (some (.int (blI v n)))) 0 0 (fun _ => False) := by
  refine Met.ofW (cc := cL_below) (maxL := 2) (ret := (some .int)) (by decide) rfl ?_
  intro p e s m args below meth c s₁ B hml hv
  obtain ⟨rfl, hP, hK, hD0, hE0⟩ := hv
  have hx := B.exec
  have hb := B.bytes
  have hRt := B.returns
  have hts := atoms_spec (ws := wsL_below) B.pre
  have hown : s.vm.findClass RL = some m.cls := findClass_of_methodNamed B.named
  have hlocks := B.notSynchronized
  have hAL : ∀ z9 : Nat, (fun _ : Nat => False) z9 → L0 ≤ z9 := fun z9 h9 => False.elim h9
  generalize hAe : (fun _ : Nat => False) = A at hAL ⊢
  have hS : va_S A s.heap s.heap [] := va_S.rf
  have hl := lv_entry ([.int v, .int n]) (n := 2) (Nat.le_of_ble_eq_true rfl)
  rw [lg_entry_eq]
  generalize (lg_sl ([.int v, .int n]) ++ List.replicate (2 - (lg_sl ([.int v, .int n])).length) Slot.unset).toArray = ls at hl ⊢
  have hl : lv_has ls 2 [(0, .int v), (1, .int n)] := hl
  refine lv_iload_n hx hb dL_below_0 rfl (lv_at hl 0 rfl) ?_
  refine lv_ldc (v := 2147483647) hx hb hown (hts (.constant RL 7 (2147483647)) (by decide +kernel)) dL_below_1 ?_
  refine lv_iand hx hb dL_below_3 ?_
  refine lv_iload_n hx hb dL_below_4 rfl (lv_at hl 1 rfl) ?_
  refine lv_irem hx hb dL_below_5 hn ?_
  show W _ _ _ _ _ _ _ _ _ _ _ _ _ _ _ (F0 m 6 ls [.int (blI v n)])
  exact W.iret (v := (blI v n)) hx hb hRt (fun t ht hW => ⟨rfl, ht⟩) hS.2.2 dL_below_6
