set_option maxHeartbeats 4000000 in
set_option maxRecDepth 100000 in
/-- act(m, sim, x): told alike -/
theorem l_act (l : Launch) (hfl : l.stackTraces = false) (D : va_G) (L0 : Nat) (cI : ClassId) (x rg tr pn ro rl t0 t1 sm so sq d r : Nat) (ld pl li tl mo : Int32) (fo fl : Nat → Int32) (jp : Int32) (jo jl : Nat → Int32) (v : Int32) (hI : lpInv d r ld pl fo fl) (sz : Nat) : Met l yL_act wsL_act ({ frames := 8, cells := 160, slots := 1100, locals := 131 }) (cPz L0 D [(cI, .int)] [(x, .inr (2, [.ref rg, .ref tr, .ref pn, .int (nI d), .int (nI r), .int ld, .int li, .int tl, .int mo])), (rg, .inr (1, [.ref ro, .ref rl, .int pl])), (ro, .inl (cI, 4, .inl fo)), (rl, .inl (cI, 28, .inl (sh fl))), (tr, .inr (1, [.ref t0, .ref t1, .int jp])), (t0, .inl (cI, 4, .inl jo)), (t1, .inl (cI, 28, .inl jl)), (sm, .inr (3, [.int (nI d), .int (nI r), .int ld, .int pl, .ref so, .ref sq, .int li, .int tl, .int mo])), (so, .inl (cI, 4, .inl fo)), (sq, .inl (cI, 31, .inl fl))] [.ref x, .ref sm, .int v] sz) (cB (some (.int 1)) (fun H => ∃ (d9 r9 : Nat) (ld9 pl9 li9 tl9 mo9 : Int32) (fo9 fl9 : Nat → Int32) (jp9 : Int32) (jo9 jl9 : Nat → Int32), lpInv d9 r9 ld9 pl9 fo9 fl9 ∧ va_P D vwCl [(x, .inr (2, [.ref rg, .ref tr, .ref pn, .int (nI d9), .int (nI r9), .int ld9, .int li9, .int tl9, .int mo9])), (rg, .inr (1, [.ref ro, .ref rl, .int pl9])), (ro, .inl (cI, 4, .inl fo9)), (rl, .inl (cI, 28, .inl (sh fl9))), (tr, .inr (1, [.ref t0, .ref t1, .int jp9])), (t0, .inl (cI, 4, .inl jo9)), (t1, .inl (cI, 28, .inl jl9)), (sm, .inr (3, [.int (nI d9), .int (nI r9), .int ld9, .int pl9, .ref so, .ref sq, .int li9, .int tl9, .int mo9])), (so, .inl (cI, 4, .inl fo9)), (sq, .inl (cI, 31, .inl fl9))] H) (va_A [(x, .inr (2, [.ref rg, .ref tr, .ref pn, .int (nI d), .int (nI r), .int ld, .int li, .int tl, .int mo])), (rg, .inr (1, [.ref ro, .ref rl, .int pl])), (ro, .inl (cI, 4, .inl fo)), (rl, .inl (cI, 28, .inl (sh fl))), (tr, .inr (1, [.ref t0, .ref t1, .int jp])), (t0, .inl (cI, 4, .inl jo)), (t1, .inl (cI, 28, .inl jl)), (sm, .inr (3, [.int (nI d), .int (nI r), .int ld, .int pl, .ref so, .ref sq, .int li, .int tl, .int mo])), (so, .inl (cI, 4, .inl fo)), (sq, .inl (cI, 31, .inl fl))] sz)) 160 1100 (va_A [(x, .inr (2, [.ref rg, .ref tr, .ref pn, .int (nI d), .int (nI r), .int ld, .int li, .int tl, .int mo])), (rg, .inr (1, [.ref ro, .ref rl, .int pl])), (ro, .inl (cI, 4, .inl fo)), (rl, .inl (cI, 28, .inl (sh fl))), (tr, .inr (1, [.ref t0, .ref t1, .int jp])), (t0, .inl (cI, 4, .inl jo)), (t1, .inl (cI, 28, .inl jl)), (sm, .inr (3, [.int (nI d), .int (nI r), .int ld, .int pl, .ref so, .ref sq, .int li, .int tl, .int mo])), (so, .inl (cI, 4, .inl fo)), (sq, .inl (cI, 31, .inl fl))] sz) := by
  refine c_ofWH (cc := cL_act) (maxL := 7) (ret := (some .boolean)) (by decide) rfl ?_
  intro p e s m args below meth c s₁ B hml hv
  obtain ⟨⟨rfl, hP, hK, hD0, hE0⟩, rfl⟩ := hv
  have hx := B.exec
  have hb := B.bytes
  have hRt := B.returns
  have hts := atoms_spec (ws := wsL_act) B.pre
  have hown : s.vm.findClass RL = some m.cls := findClass_of_methodNamed B.named
  have hlocks := B.notSynchronized
  have hAL : ∀ z9 : Nat, va_A [(x, .inr (2, [.ref rg, .ref tr, .ref pn, .int (nI d), .int (nI r), .int ld, .int li, .int tl, .int mo])), (rg, .inr (1, [.ref ro, .ref rl, .int pl])), (ro, .inl (cI, 4, .inl fo)), (rl, .inl (cI, 28, .inl (sh fl))), (tr, .inr (1, [.ref t0, .ref t1, .int jp])), (t0, .inl (cI, 4, .inl jo)), (t1, .inl (cI, 28, .inl jl)), (sm, .inr (3, [.int (nI d), .int (nI r), .int ld, .int pl, .ref so, .ref sq, .int li, .int tl, .int mo])), (so, .inl (cI, 4, .inl fo)), (sq, .inl (cI, 31, .inl fl))] s.heap.size z9 → L0 ≤ z9 := fun z9 h9 => h9.elim (fun ⟨k9, e9, h8⟩ => hD0.2 k9 (z9, e9) h8) (fun h8 => Nat.le_trans hE0.1 h8)
  have hD : va_D (va_A [(x, .inr (2, [.ref rg, .ref tr, .ref pn, .int (nI d), .int (nI r), .int ld, .int li, .int tl, .int mo])), (rg, .inr (1, [.ref ro, .ref rl, .int pl])), (ro, .inl (cI, 4, .inl fo)), (rl, .inl (cI, 28, .inl (sh fl))), (tr, .inr (1, [.ref t0, .ref t1, .int jp])), (t0, .inl (cI, 4, .inl jo)), (t1, .inl (cI, 28, .inl jl)), (sm, .inr (3, [.int (nI d), .int (nI r), .int ld, .int pl, .ref so, .ref sq, .int li, .int tl, .int mo])), (so, .inl (cI, 4, .inl fo)), (sq, .inl (cI, 31, .inl fl))] s.heap.size) [(x, .inr (2, [.ref rg, .ref tr, .ref pn, .int (nI d), .int (nI r), .int ld, .int li, .int tl, .int mo])), (rg, .inr (1, [.ref ro, .ref rl, .int pl])), (ro, .inl (cI, 4, .inl fo)), (rl, .inl (cI, 28, .inl (sh fl))), (tr, .inr (1, [.ref t0, .ref t1, .int jp])), (t0, .inl (cI, 4, .inl jo)), (t1, .inl (cI, 28, .inl jl)), (sm, .inr (3, [.int (nI d), .int (nI r), .int ld, .int pl, .ref so, .ref sq, .int li, .int tl, .int mo])), (so, .inl (cI, 4, .inl fo)), (sq, .inl (cI, 31, .inl fl))] := hD0.self
  have hA : ∀ z9 : Nat, s.heap.size ≤ z9 → va_A [(x, .inr (2, [.ref rg, .ref tr, .ref pn, .int (nI d), .int (nI r), .int ld, .int li, .int tl, .int mo])), (rg, .inr (1, [.ref ro, .ref rl, .int pl])), (ro, .inl (cI, 4, .inl fo)), (rl, .inl (cI, 28, .inl (sh fl))), (tr, .inr (1, [.ref t0, .ref t1, .int jp])), (t0, .inl (cI, 4, .inl jo)), (t1, .inl (cI, 28, .inl jl)), (sm, .inr (3, [.int (nI d), .int (nI r), .int ld, .int pl, .ref so, .ref sq, .int li, .int tl, .int mo])), (so, .inl (cI, 4, .inl fo)), (sq, .inl (cI, 31, .inl fl))] s.heap.size z9 := fun z9 h9 => Or.inr h9
  generalize hAe : va_A [(x, .inr (2, [.ref rg, .ref tr, .ref pn, .int (nI d), .int (nI r), .int ld, .int li, .int tl, .int mo])), (rg, .inr (1, [.ref ro, .ref rl, .int pl])), (ro, .inl (cI, 4, .inl fo)), (rl, .inl (cI, 28, .inl (sh fl))), (tr, .inr (1, [.ref t0, .ref t1, .int jp])), (t0, .inl (cI, 4, .inl jo)), (t1, .inl (cI, 28, .inl jl)), (sm, .inr (3, [.int (nI d), .int (nI r), .int ld, .int pl, .ref so, .ref sq, .int li, .int tl, .int mo])), (so, .inl (cI, 4, .inl fo)), (sq, .inl (cI, 31, .inl fl))] s.heap.size = A at hD hAL hA ⊢
  have hS : va_S A s.heap s.heap [] := va_S.rf
  have hl := lv_entry ([.ref x, .ref sm, .int v]) (n := 7) (Nat.le_of_ble_eq_true rfl)
  rw [lg_entry_eq]
  generalize (lg_sl ([.ref x, .ref sm, .int v]) ++ List.replicate (7 - (lg_sl ([.ref x, .ref sm, .int v])).length) Slot.unset).toArray = ls at hl ⊢
  have hl : lv_has ls 7 [(0, .ref x), (1, .ref sm), (2, .int v)] := hl
  have htb : c.exceptionTable.toList = [⟨2, 135, 676, 84⟩, ⟨136, 244, 676, 84⟩, ⟨245, 359, 676, 84⟩, ⟨360, 471, 676, 84⟩, ⟨472, 534, 676, 84⟩, ⟨535, 597, 676, 84⟩, ⟨598, 675, 676, 84⟩] := (vx_table (x := yL_act) B (hts _ (show Cond.codeWith yL_act cL_act 7 (some .boolean) [(2, 135, 676, 84), (136, 244, 676, 84), (245, 359, 676, 84), (360, 471, 676, 84), (472, 534, 676, 84), (535, 597, 676, 84), (598, 675, 676, 84)] ∈ wsL_act from List.mem_cons_self))).trans rfl
  have C0 : acCtx p l s m [.ref x, .ref sm, .int v].toArray c L0 D cI A := ⟨hx, hb, hml, hown, hts, hK, hE0, hfl, hAL, hA, htb⟩
  refine lv_iconst (v := 1) hx hb dL_act_0 (by decide) ?_
  refine lv_istore_n (lv' := [(3, .int 1), (0, .ref x), (1, .ref sm), (2, .int v)]) hx hb dL_act_1 rfl hl (by decide) rfl (fun ls hl => ?_)
  refine lv_iload_n hx hb dL_act_2 rfl (lv_at hl 3 rfl) ?_
  refine lv_bipush (v := 13) hx hb dL_act_3 (by decide) ?_
  have hPc := hP.sub (ws' := []) [] rfl
  have hDc : va_D (fun q : Nat => L0 ≤ q) [] := (hD.sub (ws' := []) [] (by decide) rfl).weaken (fun _ z9 _ h9 => hAL _ h9)
  have hKc := hK.sub (tys' := []) [] rfl
  refine c_callR (va_runS (As := [.int v, .int 13]) (rest := []) ⟨hx, hb, hml, hown, hts⟩ (l_below l D L0 v 13 (by decide)) (va_cwS 2 hts gL_act_L_below rfl rfl rfl (by decide +kernel) ⟨Nat.le_of_ble_eq_true rfl, Nat.le_of_ble_eq_true rfl⟩) ⟨cP_blind, cP_of hPc hKc hDc (kE_at hE0 hAL hS)⟩ rfl rfl hl.1 rfl (lv_room (Nat.le_of_ble_eq_true rfl)) dL_act_5 ⟨Nat.le_of_ble_eq_true rfl, Nat.le_of_ble_eq_true rfl⟩) ?_
  show W _ _ _ _ _ _ _ _ _ _ _ _ _ _ _ (F0 m 8 ls [.int (blI v 13)])
  obtain ⟨j0, hj0, ej0⟩ := blI_nI v (n := 13) (by decide) (by decide)
  refine c_top (show (blI v 13) = nI j0 from ej0) ?_
  rcases (show j0 = 0 ∨ j0 = 1 ∨ j0 = 2 ∨ j0 = 3 ∨ j0 = 4 ∨ j0 = 5 ∨ j0 = 6 ∨ j0 = 7 ∨ j0 = 8 ∨ j0 = 9 ∨ j0 = 10 ∨ 11 ≤ j0 by omega) with rfl | rfl | rfl | rfl | rfl | rfl | rfl | rfl | rfl | rfl | rfl | hj2
  · refine lv_tableIn (off := 60) (tgt := 68) hx hb dL_act_8 (by decide +kernel) (by decide +kernel) (by decide +kernel) (by decide) ?_
    exact act_68 C0 hI hP hD (fun d9 r9 ld9 pl9 li9 tl9 mo9 fo9 fl9 jp9 jo9 jl9 H locs ls pc hdg hI9 hP9 hS9 => W.zret (v := 1) hx hb hRt rfl (fun t ht hW => ⟨⟨rfl, by rw [ht]; exact ⟨_, _, _, _, _, _, _, _, _, _, _, _, hI9, hP9⟩⟩, hS9.F ht⟩) hS9.2.2 hdg) ls hl
  · refine lv_tableIn (off := 60) (tgt := 68) hx hb dL_act_8 (by decide +kernel) (by decide +kernel) (by decide +kernel) (by decide) ?_
    exact act_68 C0 hI hP hD (fun d9 r9 ld9 pl9 li9 tl9 mo9 fo9 fl9 jp9 jo9 jl9 H locs ls pc hdg hI9 hP9 hS9 => W.zret (v := 1) hx hb hRt rfl (fun t ht hW => ⟨⟨rfl, by rw [ht]; exact ⟨_, _, _, _, _, _, _, _, _, _, _, _, hI9, hP9⟩⟩, hS9.F ht⟩) hS9.2.2 hdg) ls hl
  · refine lv_tableIn (off := 128) (tgt := 136) hx hb dL_act_8 (by decide +kernel) (by decide +kernel) (by decide +kernel) (by decide) ?_
    exact act_136 C0 hI hP hD (fun d9 r9 ld9 pl9 li9 tl9 mo9 fo9 fl9 jp9 jo9 jl9 H locs ls pc hdg hI9 hP9 hS9 => W.zret (v := 1) hx hb hRt rfl (fun t ht hW => ⟨⟨rfl, by rw [ht]; exact ⟨_, _, _, _, _, _, _, _, _, _, _, _, hI9, hP9⟩⟩, hS9.F ht⟩) hS9.2.2 hdg) ls hl
  · refine lv_tableIn (off := 128) (tgt := 136) hx hb dL_act_8 (by decide +kernel) (by decide +kernel) (by decide +kernel) (by decide) ?_
    exact act_136 C0 hI hP hD (fun d9 r9 ld9 pl9 li9 tl9 mo9 fo9 fl9 jp9 jo9 jl9 H locs ls pc hdg hI9 hP9 hS9 => W.zret (v := 1) hx hb hRt rfl (fun t ht hW => ⟨⟨rfl, by rw [ht]; exact ⟨_, _, _, _, _, _, _, _, _, _, _, _, hI9, hP9⟩⟩, hS9.F ht⟩) hS9.2.2 hdg) ls hl
  · refine lv_tableIn (off := 237) (tgt := 245) hx hb dL_act_8 (by decide +kernel) (by decide +kernel) (by decide +kernel) (by decide) ?_
    exact act_245 C0 hI hP hD (fun d9 r9 ld9 pl9 li9 tl9 mo9 fo9 fl9 jp9 jo9 jl9 H locs ls pc hdg hI9 hP9 hS9 => W.zret (v := 1) hx hb hRt rfl (fun t ht hW => ⟨⟨rfl, by rw [ht]; exact ⟨_, _, _, _, _, _, _, _, _, _, _, _, hI9, hP9⟩⟩, hS9.F ht⟩) hS9.2.2 hdg) ls hl
  · refine lv_tableIn (off := 352) (tgt := 360) hx hb dL_act_8 (by decide +kernel) (by decide +kernel) (by decide +kernel) (by decide) ?_
    exact act_360 C0 hI hP hD (fun d9 r9 ld9 pl9 li9 tl9 mo9 fo9 fl9 jp9 jo9 jl9 H locs ls pc hdg hI9 hP9 hS9 => W.zret (v := 1) hx hb hRt rfl (fun t ht hW => ⟨⟨rfl, by rw [ht]; exact ⟨_, _, _, _, _, _, _, _, _, _, _, _, hI9, hP9⟩⟩, hS9.F ht⟩) hS9.2.2 hdg) ls hl
  · refine lv_tableIn (off := 352) (tgt := 360) hx hb dL_act_8 (by decide +kernel) (by decide +kernel) (by decide +kernel) (by decide) ?_
    exact act_360 C0 hI hP hD (fun d9 r9 ld9 pl9 li9 tl9 mo9 fo9 fl9 jp9 jo9 jl9 H locs ls pc hdg hI9 hP9 hS9 => W.zret (v := 1) hx hb hRt rfl (fun t ht hW => ⟨⟨rfl, by rw [ht]; exact ⟨_, _, _, _, _, _, _, _, _, _, _, _, hI9, hP9⟩⟩, hS9.F ht⟩) hS9.2.2 hdg) ls hl
  · refine lv_tableIn (off := 352) (tgt := 360) hx hb dL_act_8 (by decide +kernel) (by decide +kernel) (by decide +kernel) (by decide) ?_
    exact act_360 C0 hI hP hD (fun d9 r9 ld9 pl9 li9 tl9 mo9 fo9 fl9 jp9 jo9 jl9 H locs ls pc hdg hI9 hP9 hS9 => W.zret (v := 1) hx hb hRt rfl (fun t ht hW => ⟨⟨rfl, by rw [ht]; exact ⟨_, _, _, _, _, _, _, _, _, _, _, _, hI9, hP9⟩⟩, hS9.F ht⟩) hS9.2.2 hdg) ls hl
  · refine lv_tableIn (off := 464) (tgt := 472) hx hb dL_act_8 (by decide +kernel) (by decide +kernel) (by decide +kernel) (by decide) ?_
    exact act_472 C0 hI hP hD (fun d9 r9 ld9 pl9 li9 tl9 mo9 fo9 fl9 jp9 jo9 jl9 H locs ls pc hdg hI9 hP9 hS9 => W.zret (v := 1) hx hb hRt rfl (fun t ht hW => ⟨⟨rfl, by rw [ht]; exact ⟨_, _, _, _, _, _, _, _, _, _, _, _, hI9, hP9⟩⟩, hS9.F ht⟩) hS9.2.2 hdg) ls hl
  · refine lv_tableIn (off := 527) (tgt := 535) hx hb dL_act_8 (by decide +kernel) (by decide +kernel) (by decide +kernel) (by decide) ?_
    exact act_535 C0 hI hP hD (fun d9 r9 ld9 pl9 li9 tl9 mo9 fo9 fl9 jp9 jo9 jl9 H locs ls pc hdg hI9 hP9 hS9 => W.zret (v := 1) hx hb hRt rfl (fun t ht hW => ⟨⟨rfl, by rw [ht]; exact ⟨_, _, _, _, _, _, _, _, _, _, _, _, hI9, hP9⟩⟩, hS9.F ht⟩) hS9.2.2 hdg) ls hl
  · refine lv_tableIn (off := 527) (tgt := 535) hx hb dL_act_8 (by decide +kernel) (by decide +kernel) (by decide +kernel) (by decide) ?_
    exact act_535 C0 hI hP hD (fun d9 r9 ld9 pl9 li9 tl9 mo9 fo9 fl9 jp9 jo9 jl9 H locs ls pc hdg hI9 hP9 hS9 => W.zret (v := 1) hx hb hRt rfl (fun t ht hW => ⟨⟨rfl, by rw [ht]; exact ⟨_, _, _, _, _, _, _, _, _, _, _, _, hI9, hP9⟩⟩, hS9.F ht⟩) hS9.2.2 hdg) ls hl
  · refine lv_tableOut (tgt := 598) hx hb dL_act_8 (Or.inr (by rw [nI_toInt (by omega)]; omega)) (by decide) ?_
    exact act_598 C0 hI hP hD (fun d9 r9 ld9 pl9 li9 tl9 mo9 fo9 fl9 jp9 jo9 jl9 H locs ls pc hdg hI9 hP9 hS9 => W.zret (v := 1) hx hb hRt rfl (fun t ht hW => ⟨⟨rfl, by rw [ht]; exact ⟨_, _, _, _, _, _, _, _, _, _, _, _, hI9, hP9⟩⟩, hS9.F ht⟩) hS9.2.2 hdg) ls hl
set_option maxHeartbeats 8000000 in
/-- cell(s, k): an int of the script, or one made up -/
theorem l_cell (l : Launch) (b L : Nat) (xs : Nat → Int32) (k : Nat) (hk : k < 100) (hL : L < 2 ^ 31) : Met l yL_cell wsL_cell ({ frames := 0, cells := 0, slots := 0, locals := 0 }) (cS b L xs [.ref b, .int (nI k)]) (cR (some (.int (clI L xs (nI k))))) 0 0 (fun _ => False) := by
  refine Met.ofW (cc := cL_cell) (maxL := 2) (ret := (some .int)) (by decide) rfl ?_
  intro p e s m args below meth c s₁ B hml hv
  obtain ⟨rfl, hX, hbl⟩ := hv
  have hx := B.exec
  have hb := B.bytes
  have hRt := B.returns
  have hts := atoms_spec (ws := wsL_cell) B.pre
  have hown : s.vm.findClass RL = some m.cls := findClass_of_methodNamed B.named
  have hlocks := B.notSynchronized
  have hS : va_S (fun _ => False) s.heap s.heap [] := va_S.rf
  have hl := lv_entry ([.ref b, .int (nI k)]) (n := 2) (Nat.le_of_ble_eq_true rfl)
  rw [lg_entry_eq]
  generalize (lg_sl ([.ref b, .int (nI k)]) ++ List.replicate (2 - (lg_sl ([.ref b, .int (nI k)])).length) Slot.unset).toArray = ls at hl ⊢
  have hl : lv_has ls 2 [(0, .ref b), (1, .int (nI k))] := hl
  refine lv_iload_n hx hb dL_cell_0 rfl (lv_at hl 1 rfl) ?_
  refine lv_aload_n hx hb dL_cell_1 rfl (lv_at hl 0 rfl) ?_
  refine va_slen hx hb hX hbl (fun z => z) hS dL_cell_2 ?_
  refine lv_icmp_ge (tgt := 12) hx hb dL_cell_3 (by decide) (fun c_54 => ?_) (fun c_54 => ?_)
  · refine lv_ldc (v := 790386105) hx hb hown (hts (.constant RL 8 (790386105)) (by decide +kernel)) dL_cell_12 ?_
    refine lv_iload_n hx hb dL_cell_14 rfl (lv_at hl 1 rfl) ?_
    refine lv_iconst (v := 3) hx hb dL_cell_15 (by decide) ?_
    refine lv_iadd hx hb dL_cell_16 ?_
    refine lv_imul hx hb dL_cell_17 ?_
    exact W.iret (v := 790386105 * (nI k + 3)) hx hb hRt (fun t ht hW => ⟨by rw [clI, if_pos (show nI L ≤ nI k from c_54)], ht⟩) hS.2.2 dL_cell_18
  · have hkL : k < L := by
      rcases Nat.lt_or_ge k L with z | z
      · exact z
      · exact absurd (nI_le z (by omega)) c_54
    refine lv_aload_n hx hb dL_cell_6 rfl (lv_at hl 0 rfl) ?_
    refine lv_iload_n hx hb dL_cell_7 rfl (lv_at hl 1 rfl) ?_
    refine va_sld hx hb hX hbl (fun z => z) hS (vp_in_nI hkL hL) dL_cell_8 ?_
    refine lv_goto (tgt := 18) hx hb dL_cell_9 (by decide) ?_
    exact W.iret (v := xs (nI k).toNatClampNeg) hx hb hRt (fun t ht hW => ⟨by rw [clI, if_neg (show ¬ nI L ≤ nI k from c_54)], ht⟩) hS.2.2 dL_cell_18
