set_option maxHeartbeats 4000000 in
set_option maxRecDepth 100000 in
/-- the law of setPlates -/
theorem w_setPlates (l : Launch) (hfl : l.stackTraces = false) (D : va_G) (L0 : Nat) (cI cJ : ClassId) (x rg tr pn ro rl d r : Nat) (ld li tl mo pl : Int32) (fo fl : Nat → Int32) (t0 t1 : Nat) (jp : Int32) (jo jl : Nat → Int32) (qo : Nat) (g0 : Nat → Int64) (v : Int32) (hd : d < 8) (hr : 3 ≤ r ∧ r ≤ 30) : Met l yL_setPlates wsL_setPlates ({ frames := 8, cells := 2, slots := 12, locals := 130 }) (cP L0 D [(cI, .int), (cJ, .long)] [(x, .inr (2, [.ref rg, .ref tr, .ref pn, .int (nI d), .int (nI r), .int ld, .int li, .int tl, .int mo])), (rg, .inr (1, [.ref ro, .ref rl, .int pl])), (ro, .inl (cI, 4, .inl fo)), (rl, .inl (cI, 28, .inl (sh fl))), (tr, .inr (1, [.ref t0, .ref t1, .int jp])), (t0, .inl (cI, 4, .inl jo)), (t1, .inl (cI, 28, .inl jl)), (qo, .inl (cJ, 1, .inr (.inl g0)))] [.ref x, .int v, .ref qo]) (cB (some (.int (kSP (fun q => safS fo fl q ld d r) v))) (fun H => ∃ g9 : Nat → Int64, ∃ (p9 : Int32) (o9 l9 : Nat → Int32), (kSP (fun q => safS fo fl q ld d r) v = 0 → g9 0 = pl.toInt64) ∧ va_P D vwCl [(x, .inr (2, [.ref rg, .ref tr, .ref pn, .int (nI d), .int (nI r), .int ld, .int li, .int tl, .int mo])), (rg, .inr (1, [.ref ro, .ref rl, .int (if kSP (fun q => safS fo fl q ld d r) v = 0 then v else pl)])), (ro, .inl (cI, 4, .inl fo)), (rl, .inl (cI, 28, .inl (sh fl))), (tr, .inr (1, [.ref t0, .ref t1, .int p9])), (t0, .inl (cI, 4, .inl o9)), (t1, .inl (cI, 28, .inl l9)), (qo, .inl (cJ, 1, .inr (.inl g9)))] H) (cA [(x, .inr (2, [.ref rg, .ref tr, .ref pn, .int (nI d), .int (nI r), .int ld, .int li, .int tl, .int mo])), (rg, .inr (1, [.ref ro, .ref rl, .int pl])), (ro, .inl (cI, 4, .inl fo)), (rl, .inl (cI, 28, .inl (sh fl))), (tr, .inr (1, [.ref t0, .ref t1, .int jp])), (t0, .inl (cI, 4, .inl jo)), (t1, .inl (cI, 28, .inl jl)), (qo, .inl (cJ, 1, .inr (.inl g0)))])) 2 12 (cA [(x, .inr (2, [.ref rg, .ref tr, .ref pn, .int (nI d), .int (nI r), .int ld, .int li, .int tl, .int mo])), (rg, .inr (1, [.ref ro, .ref rl, .int pl])), (ro, .inl (cI, 4, .inl fo)), (rl, .inl (cI, 28, .inl (sh fl))), (tr, .inr (1, [.ref t0, .ref t1, .int jp])), (t0, .inl (cI, 4, .inl jo)), (t1, .inl (cI, 28, .inl jl)), (qo, .inl (cJ, 1, .inr (.inl g0)))]) := by
  refine c_ofWH (cc := cL_setPlates) (maxL := 4) (ret := (some .int)) (by decide) rfl ?_
  intro p e s m args below meth c s₁ B hml hv
  obtain ⟨rfl, hP, hK, hD0, hE0⟩ := hv
  have hx := B.exec
  have hb := B.bytes
  have hRt := B.returns
  have hts := atoms_spec (ws := wsL_setPlates) B.pre
  have hown : s.vm.findClass RL = some m.cls := findClass_of_methodNamed B.named
  have hlocks := B.notSynchronized
  have hAL : ∀ z9 : Nat, cA [(x, .inr (2, [.ref rg, .ref tr, .ref pn, .int (nI d), .int (nI r), .int ld, .int li, .int tl, .int mo])), (rg, .inr (1, [.ref ro, .ref rl, .int pl])), (ro, .inl (cI, 4, .inl fo)), (rl, .inl (cI, 28, .inl (sh fl))), (tr, .inr (1, [.ref t0, .ref t1, .int jp])), (t0, .inl (cI, 4, .inl jo)), (t1, .inl (cI, 28, .inl jl)), (qo, .inl (cJ, 1, .inr (.inl g0)))] z9 → L0 ≤ z9 := fun z9 ⟨k9, e9, h9⟩ => hD0.2 k9 (z9, e9) h9
  have hD : va_D (cA [(x, .inr (2, [.ref rg, .ref tr, .ref pn, .int (nI d), .int (nI r), .int ld, .int li, .int tl, .int mo])), (rg, .inr (1, [.ref ro, .ref rl, .int pl])), (ro, .inl (cI, 4, .inl fo)), (rl, .inl (cI, 28, .inl (sh fl))), (tr, .inr (1, [.ref t0, .ref t1, .int jp])), (t0, .inl (cI, 4, .inl jo)), (t1, .inl (cI, 28, .inl jl)), (qo, .inl (cJ, 1, .inr (.inl g0)))]) [(x, .inr (2, [.ref rg, .ref tr, .ref pn, .int (nI d), .int (nI r), .int ld, .int li, .int tl, .int mo])), (rg, .inr (1, [.ref ro, .ref rl, .int pl])), (ro, .inl (cI, 4, .inl fo)), (rl, .inl (cI, 28, .inl (sh fl))), (tr, .inr (1, [.ref t0, .ref t1, .int jp])), (t0, .inl (cI, 4, .inl jo)), (t1, .inl (cI, 28, .inl jl)), (qo, .inl (cJ, 1, .inr (.inl g0)))] := ⟨hD0.1, fun k9 z9 h9 => cA_of h9⟩
  generalize hAe : cA [(x, .inr (2, [.ref rg, .ref tr, .ref pn, .int (nI d), .int (nI r), .int ld, .int li, .int tl, .int mo])), (rg, .inr (1, [.ref ro, .ref rl, .int pl])), (ro, .inl (cI, 4, .inl fo)), (rl, .inl (cI, 28, .inl (sh fl))), (tr, .inr (1, [.ref t0, .ref t1, .int jp])), (t0, .inl (cI, 4, .inl jo)), (t1, .inl (cI, 28, .inl jl)), (qo, .inl (cJ, 1, .inr (.inl g0)))] = A at hD hAL ⊢
  have hS : va_S A s.heap s.heap [] := va_S.rf
  have hl := lv_entry ([.ref x, .int v, .ref qo]) (n := 4) (Nat.le_of_ble_eq_true rfl)
  rw [lg_entry_eq]
  generalize (lg_sl ([.ref x, .int v, .ref qo]) ++ List.replicate (4 - (lg_sl ([.ref x, .int v, .ref qo])).length) Slot.unset).toArray = ls at hl ⊢
  have hl : lv_has ls 4 [(0, .ref x), (1, .int v), (2, .ref qo)] := hl
  have htb := vx_table (x := yL_setPlates) B (hts (.codeWith yL_setPlates cL_setPlates 4 (some .int) [(0, 9, 12, 13), (0, 9, 15, 15)]) (by decide +kernel))
  refine lv_aload_n hx hb dL_setPlates_0 rfl (lv_at hl 2 rfl) ?_
  refine lv_iconst (v := 0) hx hb dL_setPlates_1 (by decide) ?_
  refine lv_aload_n hx hb dL_setPlates_2 rfl (lv_at hl 0 rfl) ?_
  refine lv_iload_n hx hb dL_setPlates_3 rfl (lv_at hl 1 rfl) ?_
  have hPc := hP.sub (ws' := [(x, .inr (2, [.ref rg, .ref tr, .ref pn, .int (nI d), .int (nI r), .int ld, .int li, .int tl, .int mo])), (rg, .inr (1, [.ref ro, .ref rl, .int pl])), (ro, .inl (cI, 4, .inl fo)), (rl, .inl (cI, 28, .inl (sh fl))), (tr, .inr (1, [.ref t0, .ref t1, .int jp])), (t0, .inl (cI, 4, .inl jo)), (t1, .inl (cI, 28, .inl jl))]) [0, 1, 2, 3, 4, 5, 6] rfl
  have hDc : va_D (fun q : Nat => L0 ≤ q) [(x, .inr (2, [.ref rg, .ref tr, .ref pn, .int (nI d), .int (nI r), .int ld, .int li, .int tl, .int mo])), (rg, .inr (1, [.ref ro, .ref rl, .int pl])), (ro, .inl (cI, 4, .inl fo)), (rl, .inl (cI, 28, .inl (sh fl))), (tr, .inr (1, [.ref t0, .ref t1, .int jp])), (t0, .inl (cI, 4, .inl jo)), (t1, .inl (cI, 28, .inl jl))] := (hD.sub (ws' := [(x, .inr (2, [.ref rg, .ref tr, .ref pn, .int (nI d), .int (nI r), .int ld, .int li, .int tl, .int mo])), (rg, .inr (1, [.ref ro, .ref rl, .int pl])), (ro, .inl (cI, 4, .inl fo)), (rl, .inl (cI, 28, .inl (sh fl))), (tr, .inr (1, [.ref t0, .ref t1, .int jp])), (t0, .inl (cI, 4, .inl jo)), (t1, .inl (cI, 28, .inl jl))]) [0, 1, 2, 3, 4, 5, 6] (by decide) rfl).weaken (fun _ z9 _ h9 => hAL _ h9)
  have hKc := hK.sub (tys' := [(cI, .int)]) [0] rfl
  refine c_callX (vx_runV (As := [.int v]) (rest := [.int 0, .ref qo]) ⟨hx, hb, hml, hown, hts⟩ (k_setPlates l hfl D L0 cI x rg tr pn ro rl d r ld li tl mo pl fo fl t0 t1 jp jo jl v hd hr) (cwV 1 hts gL_setPlates_X2_setPlates rfl rfl rfl (by decide +kernel) ⟨Nat.le_of_ble_eq_true rfl, Nat.le_of_ble_eq_true rfl⟩) ⟨cP_blind, va_recv hKc hPc (ci := 2) (q0 := 0) rfl rfl, cP_of hPc hKc hDc (kE_at hE0 hAL hS)⟩ rfl rfl hl.1 rfl (lv_room (Nat.le_of_ble_eq_true rfl)) dL_setPlates_4 ⟨Nat.le_of_ble_eq_true rfl, Nat.le_of_ble_eq_true rfl⟩) hS (fun z9 _ ⟨k9, e9, h9⟩ => (hD.sub (ws' := [(x, .inr (2, [.ref rg, .ref tr, .ref pn, .int (nI d), .int (nI r), .int ld, .int li, .int tl, .int mo])), (rg, .inr (1, [.ref ro, .ref rl, .int pl])), (ro, .inl (cI, 4, .inl fo)), (rl, .inl (cI, 28, .inl (sh fl))), (tr, .inr (1, [.ref t0, .ref t1, .int jp])), (t0, .inl (cI, 4, .inl jo)), (t1, .inl (cI, 28, .inl jl))]) [0, 1, 2, 3, 4, 5, 6] (by decide) rfl).2 k9 (z9, e9) h9) (fun z9 ⟨k9, e9, h9⟩ => (hD.sub (ws' := [(x, .inr (2, [.ref rg, .ref tr, .ref pn, .int (nI d), .int (nI r), .int ld, .int li, .int tl, .int mo])), (rg, .inr (1, [.ref ro, .ref rl, .int pl])), (ro, .inl (cI, 4, .inl fo)), (rl, .inl (cI, 28, .inl (sh fl))), (tr, .inr (1, [.ref t0, .ref t1, .int jp])), (t0, .inl (cI, 4, .inl jo)), (t1, .inl (cI, 28, .inl jl))]) [0, 1, 2, 3, 4, 5, 6] (by decide) rfl).2 k9 (z9, e9) h9) (fun z9 _ ⟨k9, e9, h9⟩ => (hD.sub (ws' := [(x, .inr (2, [.ref rg, .ref tr, .ref pn, .int (nI d), .int (nI r), .int ld, .int li, .int tl, .int mo])), (rg, .inr (1, [.ref ro, .ref rl, .int pl])), (ro, .inl (cI, 4, .inl fo)), (rl, .inl (cI, 28, .inl (sh fl))), (tr, .inr (1, [.ref t0, .ref t1, .int jp])), (t0, .inl (cI, 4, .inl jo)), (t1, .inl (cI, 28, .inl jl))]) [0, 1, 2, 3, 4, 5, 6] (by decide) rfl).2 k9 (z9, e9) h9) (fun E ce q9 H1 locs hE hB hz1 hk1 hS hce hcv hcl => ?_) (fun H1 locs hB hz1 hk1 hS => ?_)
  · obtain ⟨p9, o9, l9, hB⟩ := hB
    obtain ⟨hP, hD⟩ := c_join (ws' := [(x, .inr (2, [.ref rg, .ref tr, .ref pn, .int (nI d), .int (nI r), .int ld, .int li, .int tl, .int mo])), (rg, .inr (1, [.ref ro, .ref rl, .int pl])), (ro, .inl (cI, 4, .inl fo)), (rl, .inl (cI, 28, .inl (sh fl))), (tr, .inr (1, [.ref t0, .ref t1, .int p9])), (t0, .inl (cI, 4, .inl o9)), (t1, .inl (cI, 28, .inl l9)), (qo, .inl (cJ, 1, .inr (.inl g0)))]) (wr := [(qo, .inl (cJ, 1, .inr (.inl g0)))]) (w1 := [(x, .inr (2, [.ref rg, .ref tr, .ref pn, .int (nI d), .int (nI r), .int ld, .int li, .int tl, .int mo])), (rg, .inr (1, [.ref ro, .ref rl, .int pl])), (ro, .inl (cI, 4, .inl fo)), (rl, .inl (cI, 28, .inl (sh fl))), (tr, .inr (1, [.ref t0, .ref t1, .int p9])), (t0, .inl (cI, 4, .inl o9)), (t1, .inl (cI, 28, .inl l9))]) hP hD [0, 1, 2, 3, 4, 5, 6] [7] [1, 2, 3, 4, 5, 6, 7, 0] rfl rfl (by decide) (by decide) hk1 hB rfl rfl rfl (by decide)
    generalize H1 = H at hP hS hce ⊢
    rcases hE with ⟨rfl, hk⟩ | ⟨rfl, hk⟩
    · have hkn : ¬ kSP (fun q => safS fo fl q ld d r) v = 0 := by rw [hk]; decide
      refine c_catch (L0 := L0) hown hE0 (Or.inl rfl) [] ⟨0, 9, 12, 13⟩ [⟨0, 9, 15, 15⟩] (htb.trans rfl) (fun z9 h9 => absurd h9 List.not_mem_nil) (by decide) (by decide) (hts (.classLink RL 13 xIAE) (by decide +kernel)) hce hcv hcl ?_
      show W _ _ _ _ _ _ _ _ _ _ _ _ _ _ _ (F0 m 12 ls [.ref q9])
      refine lv_astore_n (lv' := [(3, .ref q9), (0, .ref x), (1, .int v), (2, .ref qo)]) hx hb dL_setPlates_12 rfl hl (by decide) rfl (fun ls hl => ?_)
      refine lv_iconst (v := 1) hx hb dL_setPlates_13 (by decide) ?_
      refine W.widen (k := 2) (n := 12) (Nat.le_of_ble_eq_true rfl) (Nat.le_of_ble_eq_true rfl) ?_
      exact W.iret (v := 1) hx hb hRt (fun t ht hW => ⟨⟨by rw [hk], by rw [ht]; simp only [if_neg hkn]; exact ⟨g0, _, _, _, (fun h => absurd h hkn), hP⟩⟩, hS.F ht⟩) hS.2.2 dL_setPlates_14
    · have hkn : ¬ kSP (fun q => safS fo fl q ld d r) v = 0 := by rw [hk]; decide
      refine c_catch (L0 := L0) hown hE0 (Or.inr (Or.inl rfl)) [⟨0, 9, 12, 13⟩] ⟨0, 9, 15, 15⟩ [] (htb.trans rfl) (fun z9 h9 => by
            simp only [List.mem_cons, List.not_mem_nil, or_false] at h9
            rcases h9 with rfl
            · exact ⟨by decide, xIAE, hts (.classLink RL 13 xIAE) (by decide +kernel), (kE_nc hE0).2.2.1⟩) (by decide) (by decide) (hts (.classLink RL 15 xISE) (by decide +kernel)) hce hcv hcl ?_
      show W _ _ _ _ _ _ _ _ _ _ _ _ _ _ _ (F0 m 15 ls [.ref q9])
      refine lv_astore_n (lv' := [(3, .ref q9), (0, .ref x), (1, .int v), (2, .ref qo)]) hx hb dL_setPlates_15 rfl hl (by decide) rfl (fun ls hl => ?_)
      refine lv_iconst (v := 2) hx hb dL_setPlates_16 (by decide) ?_
      refine W.widen (k := 2) (n := 12) (Nat.le_of_ble_eq_true rfl) (Nat.le_of_ble_eq_true rfl) ?_
      exact W.iret (v := 2) hx hb hRt (fun t ht hW => ⟨⟨by rw [hk], by rw [ht]; simp only [if_neg hkn]; exact ⟨g0, _, _, _, (fun h => absurd h hkn), hP⟩⟩, hS.F ht⟩) hS.2.2 dL_setPlates_17
  · obtain ⟨hk0, p9, o9, l9, hB⟩ := hB
    obtain ⟨hP, hD⟩ := c_join (ws' := [(x, .inr (2, [.ref rg, .ref tr, .ref pn, .int (nI d), .int (nI r), .int ld, .int li, .int tl, .int mo])), (rg, .inr (1, [.ref ro, .ref rl, .int v])), (ro, .inl (cI, 4, .inl fo)), (rl, .inl (cI, 28, .inl (sh fl))), (tr, .inr (1, [.ref t0, .ref t1, .int p9])), (t0, .inl (cI, 4, .inl o9)), (t1, .inl (cI, 28, .inl l9)), (qo, .inl (cJ, 1, .inr (.inl g0)))]) (wr := [(qo, .inl (cJ, 1, .inr (.inl g0)))]) (w1 := [(x, .inr (2, [.ref rg, .ref tr, .ref pn, .int (nI d), .int (nI r), .int ld, .int li, .int tl, .int mo])), (rg, .inr (1, [.ref ro, .ref rl, .int v])), (ro, .inl (cI, 4, .inl fo)), (rl, .inl (cI, 28, .inl (sh fl))), (tr, .inr (1, [.ref t0, .ref t1, .int p9])), (t0, .inl (cI, 4, .inl o9)), (t1, .inl (cI, 28, .inl l9))]) hP hD [0, 1, 2, 3, 4, 5, 6] [7] [1, 2, 3, 4, 5, 6, 7, 0] rfl rfl (by decide) (by decide) hk1 hB rfl rfl rfl (by decide)
    generalize H1 = H at hP hS ⊢
    show W _ _ _ _ _ _ _ _ _ _ _ _ _ _ _ (F0 m 7 ls [.int pl, .int 0, .ref qo])
    refine lv_i2l hx hb dL_setPlates_7 rfl ?_
    refine va_last hx hb hK hP hD hS 7 1 rfl rfl (vp_in_nI (n := 0) (by decide) (by decide)) dL_setPlates_8 (fun H locs hP hD hS => ?_)
    have hP : va_P D vwCl [(x, .inr (2, [.ref rg, .ref tr, .ref pn, .int (nI d), .int (nI r), .int ld, .int li, .int tl, .int mo])), (rg, .inr (1, [.ref ro, .ref rl, .int v])), (ro, .inl (cI, 4, .inl fo)), (rl, .inl (cI, 28, .inl (sh fl))), (tr, .inr (1, [.ref t0, .ref t1, .int p9])), (t0, .inl (cI, 4, .inl o9)), (t1, .inl (cI, 28, .inl l9)), (qo, .inl (cJ, 1, .inr (.inl (vp_updL g0 0 pl.toInt64))))] H := hP
    have hD : va_D A [(x, .inr (2, [.ref rg, .ref tr, .ref pn, .int (nI d), .int (nI r), .int ld, .int li, .int tl, .int mo])), (rg, .inr (1, [.ref ro, .ref rl, .int v])), (ro, .inl (cI, 4, .inl fo)), (rl, .inl (cI, 28, .inl (sh fl))), (tr, .inr (1, [.ref t0, .ref t1, .int p9])), (t0, .inl (cI, 4, .inl o9)), (t1, .inl (cI, 28, .inl l9)), (qo, .inl (cJ, 1, .inr (.inl (vp_updL g0 0 pl.toInt64))))] := hD
    refine lv_goto (tgt := 18) hx hb dL_setPlates_9 (by decide) ?_
    refine lv_iconst (v := 0) hx hb dL_setPlates_18 (by decide) ?_
    refine W.widen (k := 2) (n := 12) (Nat.le_of_ble_eq_true rfl) (Nat.le_of_ble_eq_true rfl) ?_
    exact W.iret (v := 0) hx hb hRt (fun t ht hW => ⟨⟨by rw [hk0], by rw [ht]; simp only [if_pos hk0]; exact ⟨vp_updL g0 0 pl.toInt64, _, _, _, (fun _ => pk_uLs), hP⟩⟩, hS.F ht⟩) hS.2.2 dL_setPlates_19
set_option maxHeartbeats 4000000 in
set_option maxRecDepth 100000 in
/-- the law of setOutrigger -/
theorem w_setOutrigger (l : Launch) (hfl : l.stackTraces = false) (D : va_G) (L0 : Nat) (cI cJ : ClassId) (x rg tr pn ro rl d r : Nat) (ld li tl mo pl : Int32) (fo fl : Nat → Int32) (t0 t1 : Nat) (jp : Int32) (jo jl : Nat → Int32) (qo : Nat) (g0 : Nat → Int64) (v : Int32) (u : Int32) (hld : ¬ ld < 0) (hd : d < 8) (hr : 3 ≤ r ∧ r ≤ 30) : Met l yL_setOutrigger wsL_setOutrigger ({ frames := 8, cells := 3, slots := 18, locals := 131 }) (cP L0 D [(cI, .int), (cJ, .long)] [(x, .inr (2, [.ref rg, .ref tr, .ref pn, .int (nI d), .int (nI r), .int ld, .int li, .int tl, .int mo])), (rg, .inr (1, [.ref ro, .ref rl, .int pl])), (ro, .inl (cI, 4, .inl fo)), (rl, .inl (cI, 28, .inl (sh fl))), (tr, .inr (1, [.ref t0, .ref t1, .int jp])), (t0, .inl (cI, 4, .inl jo)), (t1, .inl (cI, 28, .inl jl)), (qo, .inl (cJ, 1, .inr (.inl g0)))] [.ref x, .int v, .int u, .ref qo]) (cB (some (.int (kSO ld (fun k q => safS (upd fo k q) fl pl ld d r) v u))) (fun H => ∃ g9 : Nat → Int64, ∃ (p9 : Int32) (o9 l9 : Nat → Int32), (kSO ld (fun k q => safS (upd fo k q) fl pl ld d r) v u = 0 → g9 0 = (fo v.toNatClampNeg).toInt64) ∧ va_P D vwCl [(x, .inr (2, [.ref rg, .ref tr, .ref pn, .int (nI d), .int (nI r), .int ld, .int li, .int tl, .int mo])), (rg, .inr (1, [.ref ro, .ref rl, .int pl])), (ro, .inl (cI, 4, .inl (if kSO ld (fun k q => safS (upd fo k q) fl pl ld d r) v u = 0 then upd fo v.toNatClampNeg u else fo))), (rl, .inl (cI, 28, .inl (sh fl))), (tr, .inr (1, [.ref t0, .ref t1, .int p9])), (t0, .inl (cI, 4, .inl o9)), (t1, .inl (cI, 28, .inl l9)), (qo, .inl (cJ, 1, .inr (.inl g9)))] H) (cA [(x, .inr (2, [.ref rg, .ref tr, .ref pn, .int (nI d), .int (nI r), .int ld, .int li, .int tl, .int mo])), (rg, .inr (1, [.ref ro, .ref rl, .int pl])), (ro, .inl (cI, 4, .inl fo)), (rl, .inl (cI, 28, .inl (sh fl))), (tr, .inr (1, [.ref t0, .ref t1, .int jp])), (t0, .inl (cI, 4, .inl jo)), (t1, .inl (cI, 28, .inl jl)), (qo, .inl (cJ, 1, .inr (.inl g0)))])) 3 18 (cA [(x, .inr (2, [.ref rg, .ref tr, .ref pn, .int (nI d), .int (nI r), .int ld, .int li, .int tl, .int mo])), (rg, .inr (1, [.ref ro, .ref rl, .int pl])), (ro, .inl (cI, 4, .inl fo)), (rl, .inl (cI, 28, .inl (sh fl))), (tr, .inr (1, [.ref t0, .ref t1, .int jp])), (t0, .inl (cI, 4, .inl jo)), (t1, .inl (cI, 28, .inl jl)), (qo, .inl (cJ, 1, .inr (.inl g0)))]) := by
  refine c_ofWH (cc := cL_setOutrigger) (maxL := 5) (ret := (some .int)) (by decide) rfl ?_
  intro p e s m args below meth c s₁ B hml hv
  obtain ⟨rfl, hP, hK, hD0, hE0⟩ := hv
  have hx := B.exec
  have hb := B.bytes
  have hRt := B.returns
  have hts := atoms_spec (ws := wsL_setOutrigger) B.pre
  have hown : s.vm.findClass RL = some m.cls := findClass_of_methodNamed B.named
  have hlocks := B.notSynchronized
  have hAL : ∀ z9 : Nat, cA [(x, .inr (2, [.ref rg, .ref tr, .ref pn, .int (nI d), .int (nI r), .int ld, .int li, .int tl, .int mo])), (rg, .inr (1, [.ref ro, .ref rl, .int pl])), (ro, .inl (cI, 4, .inl fo)), (rl, .inl (cI, 28, .inl (sh fl))), (tr, .inr (1, [.ref t0, .ref t1, .int jp])), (t0, .inl (cI, 4, .inl jo)), (t1, .inl (cI, 28, .inl jl)), (qo, .inl (cJ, 1, .inr (.inl g0)))] z9 → L0 ≤ z9 := fun z9 ⟨k9, e9, h9⟩ => hD0.2 k9 (z9, e9) h9
  have hD : va_D (cA [(x, .inr (2, [.ref rg, .ref tr, .ref pn, .int (nI d), .int (nI r), .int ld, .int li, .int tl, .int mo])), (rg, .inr (1, [.ref ro, .ref rl, .int pl])), (ro, .inl (cI, 4, .inl fo)), (rl, .inl (cI, 28, .inl (sh fl))), (tr, .inr (1, [.ref t0, .ref t1, .int jp])), (t0, .inl (cI, 4, .inl jo)), (t1, .inl (cI, 28, .inl jl)), (qo, .inl (cJ, 1, .inr (.inl g0)))]) [(x, .inr (2, [.ref rg, .ref tr, .ref pn, .int (nI d), .int (nI r), .int ld, .int li, .int tl, .int mo])), (rg, .inr (1, [.ref ro, .ref rl, .int pl])), (ro, .inl (cI, 4, .inl fo)), (rl, .inl (cI, 28, .inl (sh fl))), (tr, .inr (1, [.ref t0, .ref t1, .int jp])), (t0, .inl (cI, 4, .inl jo)), (t1, .inl (cI, 28, .inl jl)), (qo, .inl (cJ, 1, .inr (.inl g0)))] := ⟨hD0.1, fun k9 z9 h9 => cA_of h9⟩
  generalize hAe : cA [(x, .inr (2, [.ref rg, .ref tr, .ref pn, .int (nI d), .int (nI r), .int ld, .int li, .int tl, .int mo])), (rg, .inr (1, [.ref ro, .ref rl, .int pl])), (ro, .inl (cI, 4, .inl fo)), (rl, .inl (cI, 28, .inl (sh fl))), (tr, .inr (1, [.ref t0, .ref t1, .int jp])), (t0, .inl (cI, 4, .inl jo)), (t1, .inl (cI, 28, .inl jl)), (qo, .inl (cJ, 1, .inr (.inl g0)))] = A at hD hAL ⊢
  have hS : va_S A s.heap s.heap [] := va_S.rf
  have hl := lv_entry ([.ref x, .int v, .int u, .ref qo]) (n := 5) (Nat.le_of_ble_eq_true rfl)
  rw [lg_entry_eq]
  generalize (lg_sl ([.ref x, .int v, .int u, .ref qo]) ++ List.replicate (5 - (lg_sl ([.ref x, .int v, .int u, .ref qo])).length) Slot.unset).toArray = ls at hl ⊢
  have hl : lv_has ls 5 [(0, .ref x), (1, .int v), (2, .int u), (3, .ref qo)] := hl
  have htb := vx_table (x := yL_setOutrigger) B (hts (.codeWith yL_setOutrigger cL_setOutrigger 5 (some .int) [(0, 10, 13, 21), (0, 10, 17, 13), (0, 10, 21, 15)]) (by decide +kernel))
  refine lv_aload_n hx hb dL_setOutrigger_0 rfl (lv_at hl 3 rfl) ?_
  refine lv_iconst (v := 0) hx hb dL_setOutrigger_1 (by decide) ?_
  refine lv_aload_n hx hb dL_setOutrigger_2 rfl (lv_at hl 0 rfl) ?_
  refine lv_iload_n hx hb dL_setOutrigger_3 rfl (lv_at hl 1 rfl) ?_
  refine lv_iload_n hx hb dL_setOutrigger_4 rfl (lv_at hl 2 rfl) ?_
  have hPc := hP.sub (ws' := [(x, .inr (2, [.ref rg, .ref tr, .ref pn, .int (nI d), .int (nI r), .int ld, .int li, .int tl, .int mo])), (rg, .inr (1, [.ref ro, .ref rl, .int pl])), (ro, .inl (cI, 4, .inl fo)), (rl, .inl (cI, 28, .inl (sh fl))), (tr, .inr (1, [.ref t0, .ref t1, .int jp])), (t0, .inl (cI, 4, .inl jo)), (t1, .inl (cI, 28, .inl jl))]) [0, 1, 2, 3, 4, 5, 6] rfl
  have hDc : va_D (fun q : Nat => L0 ≤ q) [(x, .inr (2, [.ref rg, .ref tr, .ref pn, .int (nI d), .int (nI r), .int ld, .int li, .int tl, .int mo])), (rg, .inr (1, [.ref ro, .ref rl, .int pl])), (ro, .inl (cI, 4, .inl fo)), (rl, .inl (cI, 28, .inl (sh fl))), (tr, .inr (1, [.ref t0, .ref t1, .int jp])), (t0, .inl (cI, 4, .inl jo)), (t1, .inl (cI, 28, .inl jl))] := (hD.sub (ws' := [(x, .inr (2, [.ref rg, .ref tr, .ref pn, .int (nI d), .int (nI r), .int ld, .int li, .int tl, .int mo])), (rg, .inr (1, [.ref ro, .ref rl, .int pl])), (ro, .inl (cI, 4, .inl fo)), (rl, .inl (cI, 28, .inl (sh fl))), (tr, .inr (1, [.ref t0, .ref t1, .int jp])), (t0, .inl (cI, 4, .inl jo)), (t1, .inl (cI, 28, .inl jl))]) [0, 1, 2, 3, 4, 5, 6] (by decide) rfl).weaken (fun _ z9 _ h9 => hAL _ h9)
  have hKc := hK.sub (tys' := [(cI, .int)]) [0] rfl
  refine c_callX (vx_runV (As := [.int v, .int u]) (rest := [.int 0, .ref qo]) ⟨hx, hb, hml, hown, hts⟩ (k_setOutrigger l hfl D L0 cI x rg tr pn ro rl d r ld li tl mo pl fo fl t0 t1 jp jo jl v u hld hd hr) (cwV 2 hts gL_setOutrigger_X2_setOutrigger rfl rfl rfl (by decide +kernel) ⟨Nat.le_of_ble_eq_true rfl, Nat.le_of_ble_eq_true rfl⟩) ⟨cP_blind, va_recv hKc hPc (ci := 2) (q0 := 0) rfl rfl, cP_of hPc hKc hDc (kE_at hE0 hAL hS)⟩ rfl rfl hl.1 rfl (lv_room (Nat.le_of_ble_eq_true rfl)) dL_setOutrigger_5 ⟨Nat.le_of_ble_eq_true rfl, Nat.le_of_ble_eq_true rfl⟩) hS (fun z9 _ ⟨k9, e9, h9⟩ => (hD.sub (ws' := [(x, .inr (2, [.ref rg, .ref tr, .ref pn, .int (nI d), .int (nI r), .int ld, .int li, .int tl, .int mo])), (rg, .inr (1, [.ref ro, .ref rl, .int pl])), (ro, .inl (cI, 4, .inl fo)), (rl, .inl (cI, 28, .inl (sh fl))), (tr, .inr (1, [.ref t0, .ref t1, .int jp])), (t0, .inl (cI, 4, .inl jo)), (t1, .inl (cI, 28, .inl jl))]) [0, 1, 2, 3, 4, 5, 6] (by decide) rfl).2 k9 (z9, e9) h9) (fun z9 ⟨k9, e9, h9⟩ => (hD.sub (ws' := [(x, .inr (2, [.ref rg, .ref tr, .ref pn, .int (nI d), .int (nI r), .int ld, .int li, .int tl, .int mo])), (rg, .inr (1, [.ref ro, .ref rl, .int pl])), (ro, .inl (cI, 4, .inl fo)), (rl, .inl (cI, 28, .inl (sh fl))), (tr, .inr (1, [.ref t0, .ref t1, .int jp])), (t0, .inl (cI, 4, .inl jo)), (t1, .inl (cI, 28, .inl jl))]) [0, 1, 2, 3, 4, 5, 6] (by decide) rfl).2 k9 (z9, e9) h9) (fun z9 _ ⟨k9, e9, h9⟩ => (hD.sub (ws' := [(x, .inr (2, [.ref rg, .ref tr, .ref pn, .int (nI d), .int (nI r), .int ld, .int li, .int tl, .int mo])), (rg, .inr (1, [.ref ro, .ref rl, .int pl])), (ro, .inl (cI, 4, .inl fo)), (rl, .inl (cI, 28, .inl (sh fl))), (tr, .inr (1, [.ref t0, .ref t1, .int jp])), (t0, .inl (cI, 4, .inl jo)), (t1, .inl (cI, 28, .inl jl))]) [0, 1, 2, 3, 4, 5, 6] (by decide) rfl).2 k9 (z9, e9) h9) (fun E ce q9 H1 locs hE hB hz1 hk1 hS hce hcv hcl => ?_) (fun H1 locs hB hz1 hk1 hS => ?_)
  · obtain ⟨p9, o9, l9, hB⟩ := hB
    obtain ⟨hP, hD⟩ := c_join (ws' := [(x, .inr (2, [.ref rg, .ref tr, .ref pn, .int (nI d), .int (nI r), .int ld, .int li, .int tl, .int mo])), (rg, .inr (1, [.ref ro, .ref rl, .int pl])), (ro, .inl (cI, 4, .inl fo)), (rl, .inl (cI, 28, .inl (sh fl))), (tr, .inr (1, [.ref t0, .ref t1, .int p9])), (t0, .inl (cI, 4, .inl o9)), (t1, .inl (cI, 28, .inl l9)), (qo, .inl (cJ, 1, .inr (.inl g0)))]) (wr := [(qo, .inl (cJ, 1, .inr (.inl g0)))]) (w1 := [(x, .inr (2, [.ref rg, .ref tr, .ref pn, .int (nI d), .int (nI r), .int ld, .int li, .int tl, .int mo])), (rg, .inr (1, [.ref ro, .ref rl, .int pl])), (ro, .inl (cI, 4, .inl fo)), (rl, .inl (cI, 28, .inl (sh fl))), (tr, .inr (1, [.ref t0, .ref t1, .int p9])), (t0, .inl (cI, 4, .inl o9)), (t1, .inl (cI, 28, .inl l9))]) hP hD [0, 1, 2, 3, 4, 5, 6] [7] [1, 2, 3, 4, 5, 6, 7, 0] rfl rfl (by decide) (by decide) hk1 hB rfl rfl rfl (by decide)
    generalize H1 = H at hP hS hce ⊢
    rcases hE with ⟨rfl, hk⟩ | ⟨rfl, hk⟩ | ⟨rfl, hk⟩
    · have hkn : ¬ kSO ld (fun k q => safS (upd fo k q) fl pl ld d r) v u = 0 := by rw [hk]; decide
      refine c_catch (L0 := L0) hown hE0 (Or.inr (Or.inr rfl)) [] ⟨0, 10, 13, 21⟩ [⟨0, 10, 17, 13⟩, ⟨0, 10, 21, 15⟩] (htb.trans rfl) (fun z9 h9 => absurd h9 List.not_mem_nil) (by decide) (by decide) (hts (.classLink RL 21 xIOB) (by decide +kernel)) hce hcv hcl ?_
      show W _ _ _ _ _ _ _ _ _ _ _ _ _ _ _ (F0 m 13 ls [.ref q9])
      refine lv_astore (lv' := [(4, .ref q9), (0, .ref x), (1, .int v), (2, .int u), (3, .ref qo)]) hx hb dL_setOutrigger_13 hl (by decide) rfl (fun ls hl => ?_)
      refine lv_iconst (v := 1) hx hb dL_setOutrigger_15 (by decide) ?_
      refine W.widen (k := 3) (n := 18) (Nat.le_of_ble_eq_true rfl) (Nat.le_of_ble_eq_true rfl) ?_
      exact W.iret (v := 1) hx hb hRt (fun t ht hW => ⟨⟨by rw [hk], by rw [ht]; simp only [if_neg hkn]; exact ⟨g0, _, _, _, (fun h => absurd h hkn), hP⟩⟩, hS.F ht⟩) hS.2.2 dL_setOutrigger_16
    · have hkn : ¬ kSO ld (fun k q => safS (upd fo k q) fl pl ld d r) v u = 0 := by rw [hk]; decide
      refine c_catch (L0 := L0) hown hE0 (Or.inl rfl) [⟨0, 10, 13, 21⟩] ⟨0, 10, 17, 13⟩ [⟨0, 10, 21, 15⟩] (htb.trans rfl) (fun z9 h9 => by
            simp only [List.mem_cons, List.not_mem_nil, or_false] at h9
            rcases h9 with rfl
            · exact ⟨by decide, xIOB, hts (.classLink RL 21 xIOB) (by decide +kernel), (kE_nc hE0).2.1⟩) (by decide) (by decide) (hts (.classLink RL 13 xIAE) (by decide +kernel)) hce hcv hcl ?_
      show W _ _ _ _ _ _ _ _ _ _ _ _ _ _ _ (F0 m 17 ls [.ref q9])
      refine lv_astore (lv' := [(4, .ref q9), (0, .ref x), (1, .int v), (2, .int u), (3, .ref qo)]) hx hb dL_setOutrigger_17 hl (by decide) rfl (fun ls hl => ?_)
      refine lv_iconst (v := 2) hx hb dL_setOutrigger_19 (by decide) ?_
      refine W.widen (k := 3) (n := 18) (Nat.le_of_ble_eq_true rfl) (Nat.le_of_ble_eq_true rfl) ?_
      exact W.iret (v := 2) hx hb hRt (fun t ht hW => ⟨⟨by rw [hk], by rw [ht]; simp only [if_neg hkn]; exact ⟨g0, _, _, _, (fun h => absurd h hkn), hP⟩⟩, hS.F ht⟩) hS.2.2 dL_setOutrigger_20
    · have hkn : ¬ kSO ld (fun k q => safS (upd fo k q) fl pl ld d r) v u = 0 := by rw [hk]; decide
      refine c_catch (L0 := L0) hown hE0 (Or.inr (Or.inl rfl)) [⟨0, 10, 13, 21⟩, ⟨0, 10, 17, 13⟩] ⟨0, 10, 21, 15⟩ [] (htb.trans rfl) (fun z9 h9 => by
            simp only [List.mem_cons, List.not_mem_nil, or_false] at h9
            rcases h9 with rfl | rfl
            · exact ⟨by decide, xIOB, hts (.classLink RL 21 xIOB) (by decide +kernel), (kE_nc hE0).2.2.2.1⟩
            · exact ⟨by decide, xIAE, hts (.classLink RL 13 xIAE) (by decide +kernel), (kE_nc hE0).2.2.1⟩) (by decide) (by decide) (hts (.classLink RL 15 xISE) (by decide +kernel)) hce hcv hcl ?_
      show W _ _ _ _ _ _ _ _ _ _ _ _ _ _ _ (F0 m 21 ls [.ref q9])
      refine lv_astore (lv' := [(4, .ref q9), (0, .ref x), (1, .int v), (2, .int u), (3, .ref qo)]) hx hb dL_setOutrigger_21 hl (by decide) rfl (fun ls hl => ?_)
      refine lv_iconst (v := 3) hx hb dL_setOutrigger_23 (by decide) ?_
      refine W.widen (k := 3) (n := 18) (Nat.le_of_ble_eq_true rfl) (Nat.le_of_ble_eq_true rfl) ?_
      exact W.iret (v := 3) hx hb hRt (fun t ht hW => ⟨⟨by rw [hk], by rw [ht]; simp only [if_neg hkn]; exact ⟨g0, _, _, _, (fun h => absurd h hkn), hP⟩⟩, hS.F ht⟩) hS.2.2 dL_setOutrigger_24
  · obtain ⟨hk0, p9, o9, l9, hB⟩ := hB
    obtain ⟨hP, hD⟩ := c_join (ws' := [(x, .inr (2, [.ref rg, .ref tr, .ref pn, .int (nI d), .int (nI r), .int ld, .int li, .int tl, .int mo])), (rg, .inr (1, [.ref ro, .ref rl, .int pl])), (ro, .inl (cI, 4, .inl (upd fo v.toNatClampNeg u))), (rl, .inl (cI, 28, .inl (sh fl))), (tr, .inr (1, [.ref t0, .ref t1, .int p9])), (t0, .inl (cI, 4, .inl o9)), (t1, .inl (cI, 28, .inl l9)), (qo, .inl (cJ, 1, .inr (.inl g0)))]) (wr := [(qo, .inl (cJ, 1, .inr (.inl g0)))]) (w1 := [(x, .inr (2, [.ref rg, .ref tr, .ref pn, .int (nI d), .int (nI r), .int ld, .int li, .int tl, .int mo])), (rg, .inr (1, [.ref ro, .ref rl, .int pl])), (ro, .inl (cI, 4, .inl (upd fo v.toNatClampNeg u))), (rl, .inl (cI, 28, .inl (sh fl))), (tr, .inr (1, [.ref t0, .ref t1, .int p9])), (t0, .inl (cI, 4, .inl o9)), (t1, .inl (cI, 28, .inl l9))]) hP hD [0, 1, 2, 3, 4, 5, 6] [7] [1, 2, 3, 4, 5, 6, 7, 0] rfl rfl (by decide) (by decide) hk1 hB rfl rfl rfl (by decide)
    generalize H1 = H at hP hS ⊢
    show W _ _ _ _ _ _ _ _ _ _ _ _ _ _ _ (F0 m 8 ls [.int (fo v.toNatClampNeg), .int 0, .ref qo])
    refine lv_i2l hx hb dL_setOutrigger_8 rfl ?_
    refine va_last hx hb hK hP hD hS 7 1 rfl rfl (vp_in_nI (n := 0) (by decide) (by decide)) dL_setOutrigger_9 (fun H locs hP hD hS => ?_)
    have hP : va_P D vwCl [(x, .inr (2, [.ref rg, .ref tr, .ref pn, .int (nI d), .int (nI r), .int ld, .int li, .int tl, .int mo])), (rg, .inr (1, [.ref ro, .ref rl, .int pl])), (ro, .inl (cI, 4, .inl (upd fo v.toNatClampNeg u))), (rl, .inl (cI, 28, .inl (sh fl))), (tr, .inr (1, [.ref t0, .ref t1, .int p9])), (t0, .inl (cI, 4, .inl o9)), (t1, .inl (cI, 28, .inl l9)), (qo, .inl (cJ, 1, .inr (.inl (vp_updL g0 0 ((fo v.toNatClampNeg).toInt64)))))] H := hP
    have hD : va_D A [(x, .inr (2, [.ref rg, .ref tr, .ref pn, .int (nI d), .int (nI r), .int ld, .int li, .int tl, .int mo])), (rg, .inr (1, [.ref ro, .ref rl, .int pl])), (ro, .inl (cI, 4, .inl (upd fo v.toNatClampNeg u))), (rl, .inl (cI, 28, .inl (sh fl))), (tr, .inr (1, [.ref t0, .ref t1, .int p9])), (t0, .inl (cI, 4, .inl o9)), (t1, .inl (cI, 28, .inl l9)), (qo, .inl (cJ, 1, .inr (.inl (vp_updL g0 0 ((fo v.toNatClampNeg).toInt64)))))] := hD
    refine lv_goto (tgt := 25) hx hb dL_setOutrigger_10 (by decide) ?_
    refine lv_iconst (v := 0) hx hb dL_setOutrigger_25 (by decide) ?_
    refine W.widen (k := 3) (n := 18) (Nat.le_of_ble_eq_true rfl) (Nat.le_of_ble_eq_true rfl) ?_
    exact W.iret (v := 0) hx hb hRt (fun t ht hW => ⟨⟨by rw [hk0], by rw [ht]; simp only [if_pos hk0]; exact ⟨vp_updL g0 0 ((fo v.toNatClampNeg).toInt64), _, _, _, (fun _ => pk_uLs), hP⟩⟩, hS.F ht⟩) hS.2.2 dL_setOutrigger_26
set_option maxHeartbeats 4000000 in
set_option maxRecDepth 100000 in
/-- the law of setLimit -/
theorem w_setLimit (l : Launch) (hfl : l.stackTraces = false) (D : va_G) (L0 : Nat) (cI cJ : ClassId) (x rg tr pn ro rl d r : Nat) (ld li tl mo pl : Int32) (fo fl : Nat → Int32) (t0 t1 : Nat) (jp : Int32) (jo jl : Nat → Int32) (qo : Nat) (g0 : Nat → Int64) (v : Int32) (u : Int32) (hd : d < 8) (hr : 3 ≤ r ∧ r ≤ 30) : Met l yL_setLimit wsL_setLimit ({ frames := 8, cells := 2, slots := 12, locals := 131 }) (cP L0 D [(cI, .int), (cJ, .long)] [(x, .inr (2, [.ref rg, .ref tr, .ref pn, .int (nI d), .int (nI r), .int ld, .int li, .int tl, .int mo])), (rg, .inr (1, [.ref ro, .ref rl, .int pl])), (ro, .inl (cI, 4, .inl fo)), (rl, .inl (cI, 28, .inl (sh fl))), (tr, .inr (1, [.ref t0, .ref t1, .int jp])), (t0, .inl (cI, 4, .inl jo)), (t1, .inl (cI, 28, .inl jl)), (qo, .inl (cJ, 1, .inr (.inl g0)))] [.ref x, .int v, .int u, .ref qo]) (cB (some (.int (kSL (fun k q => safS fo (upd fl k q) pl ld d r) v u))) (fun H => ∃ g9 : Nat → Int64, ∃ (p9 : Int32) (o9 l9 : Nat → Int32), (kSL (fun k q => safS fo (upd fl k q) pl ld d r) v u = 0 → g9 0 = (fl v.toNatClampNeg).toInt64) ∧ va_P D vwCl [(x, .inr (2, [.ref rg, .ref tr, .ref pn, .int (nI d), .int (nI r), .int ld, .int li, .int tl, .int mo])), (rg, .inr (1, [.ref ro, .ref rl, .int pl])), (ro, .inl (cI, 4, .inl fo)), (rl, .inl (cI, 28, .inl (sh (if kSL (fun k q => safS fo (upd fl k q) pl ld d r) v u = 0 then upd fl v.toNatClampNeg u else fl)))), (tr, .inr (1, [.ref t0, .ref t1, .int p9])), (t0, .inl (cI, 4, .inl o9)), (t1, .inl (cI, 28, .inl l9)), (qo, .inl (cJ, 1, .inr (.inl g9)))] H) (cA [(x, .inr (2, [.ref rg, .ref tr, .ref pn, .int (nI d), .int (nI r), .int ld, .int li, .int tl, .int mo])), (rg, .inr (1, [.ref ro, .ref rl, .int pl])), (ro, .inl (cI, 4, .inl fo)), (rl, .inl (cI, 28, .inl (sh fl))), (tr, .inr (1, [.ref t0, .ref t1, .int jp])), (t0, .inl (cI, 4, .inl jo)), (t1, .inl (cI, 28, .inl jl)), (qo, .inl (cJ, 1, .inr (.inl g0)))])) 2 12 (cA [(x, .inr (2, [.ref rg, .ref tr, .ref pn, .int (nI d), .int (nI r), .int ld, .int li, .int tl, .int mo])), (rg, .inr (1, [.ref ro, .ref rl, .int pl])), (ro, .inl (cI, 4, .inl fo)), (rl, .inl (cI, 28, .inl (sh fl))), (tr, .inr (1, [.ref t0, .ref t1, .int jp])), (t0, .inl (cI, 4, .inl jo)), (t1, .inl (cI, 28, .inl jl)), (qo, .inl (cJ, 1, .inr (.inl g0)))]) := by
  refine c_ofWH (cc := cL_setLimit) (maxL := 5) (ret := (some .int)) (by decide) rfl ?_
  intro p e s m args below meth c s₁ B hml hv
  obtain ⟨rfl, hP, hK, hD0, hE0⟩ := hv
  have hx := B.exec
  have hb := B.bytes
  have hRt := B.returns
  have hts := atoms_spec (ws := wsL_setLimit) B.pre
  have hown : s.vm.findClass RL = some m.cls := findClass_of_methodNamed B.named
  have hlocks := B.notSynchronized
  have hAL : ∀ z9 : Nat, cA [(x, .inr (2, [.ref rg, .ref tr, .ref pn, .int (nI d), .int (nI r), .int ld, .int li, .int tl, .int mo])), (rg, .inr (1, [.ref ro, .ref rl, .int pl])), (ro, .inl (cI, 4, .inl fo)), (rl, .inl (cI, 28, .inl (sh fl))), (tr, .inr (1, [.ref t0, .ref t1, .int jp])), (t0, .inl (cI, 4, .inl jo)), (t1, .inl (cI, 28, .inl jl)), (qo, .inl (cJ, 1, .inr (.inl g0)))] z9 → L0 ≤ z9 := fun z9 ⟨k9, e9, h9⟩ => hD0.2 k9 (z9, e9) h9
  have hD : va_D (cA [(x, .inr (2, [.ref rg, .ref tr, .ref pn, .int (nI d), .int (nI r), .int ld, .int li, .int tl, .int mo])), (rg, .inr (1, [.ref ro, .ref rl, .int pl])), (ro, .inl (cI, 4, .inl fo)), (rl, .inl (cI, 28, .inl (sh fl))), (tr, .inr (1, [.ref t0, .ref t1, .int jp])), (t0, .inl (cI, 4, .inl jo)), (t1, .inl (cI, 28, .inl jl)), (qo, .inl (cJ, 1, .inr (.inl g0)))]) [(x, .inr (2, [.ref rg, .ref tr, .ref pn, .int (nI d), .int (nI r), .int ld, .int li, .int tl, .int mo])), (rg, .inr (1, [.ref ro, .ref rl, .int pl])), (ro, .inl (cI, 4, .inl fo)), (rl, .inl (cI, 28, .inl (sh fl))), (tr, .inr (1, [.ref t0, .ref t1, .int jp])), (t0, .inl (cI, 4, .inl jo)), (t1, .inl (cI, 28, .inl jl)), (qo, .inl (cJ, 1, .inr (.inl g0)))] := ⟨hD0.1, fun k9 z9 h9 => cA_of h9⟩
  generalize hAe : cA [(x, .inr (2, [.ref rg, .ref tr, .ref pn, .int (nI d), .int (nI r), .int ld, .int li, .int tl, .int mo])), (rg, .inr (1, [.ref ro, .ref rl, .int pl])), (ro, .inl (cI, 4, .inl fo)), (rl, .inl (cI, 28, .inl (sh fl))), (tr, .inr (1, [.ref t0, .ref t1, .int jp])), (t0, .inl (cI, 4, .inl jo)), (t1, .inl (cI, 28, .inl jl)), (qo, .inl (cJ, 1, .inr (.inl g0)))] = A at hD hAL ⊢
  have hS : va_S A s.heap s.heap [] := va_S.rf
  have hl := lv_entry ([.ref x, .int v, .int u, .ref qo]) (n := 5) (Nat.le_of_ble_eq_true rfl)
  rw [lg_entry_eq]
  generalize (lg_sl ([.ref x, .int v, .int u, .ref qo]) ++ List.replicate (5 - (lg_sl ([.ref x, .int v, .int u, .ref qo])).length) Slot.unset).toArray = ls at hl ⊢
  have hl : lv_has ls 5 [(0, .ref x), (1, .int v), (2, .int u), (3, .ref qo)] := hl
  have htb := vx_table (x := yL_setLimit) B (hts (.codeWith yL_setLimit cL_setLimit 5 (some .int) [(0, 10, 13, 13), (0, 10, 17, 15)]) (by decide +kernel))
  refine lv_aload_n hx hb dL_setLimit_0 rfl (lv_at hl 3 rfl) ?_
  refine lv_iconst (v := 0) hx hb dL_setLimit_1 (by decide) ?_
  refine lv_aload_n hx hb dL_setLimit_2 rfl (lv_at hl 0 rfl) ?_
  refine lv_iload_n hx hb dL_setLimit_3 rfl (lv_at hl 1 rfl) ?_
  refine lv_iload_n hx hb dL_setLimit_4 rfl (lv_at hl 2 rfl) ?_
  have hPc := hP.sub (ws' := [(x, .inr (2, [.ref rg, .ref tr, .ref pn, .int (nI d), .int (nI r), .int ld, .int li, .int tl, .int mo])), (rg, .inr (1, [.ref ro, .ref rl, .int pl])), (ro, .inl (cI, 4, .inl fo)), (rl, .inl (cI, 28, .inl (sh fl))), (tr, .inr (1, [.ref t0, .ref t1, .int jp])), (t0, .inl (cI, 4, .inl jo)), (t1, .inl (cI, 28, .inl jl))]) [0, 1, 2, 3, 4, 5, 6] rfl
  have hDc : va_D (fun q : Nat => L0 ≤ q) [(x, .inr (2, [.ref rg, .ref tr, .ref pn, .int (nI d), .int (nI r), .int ld, .int li, .int tl, .int mo])), (rg, .inr (1, [.ref ro, .ref rl, .int pl])), (ro, .inl (cI, 4, .inl fo)), (rl, .inl (cI, 28, .inl (sh fl))), (tr, .inr (1, [.ref t0, .ref t1, .int jp])), (t0, .inl (cI, 4, .inl jo)), (t1, .inl (cI, 28, .inl jl))] := (hD.sub (ws' := [(x, .inr (2, [.ref rg, .ref tr, .ref pn, .int (nI d), .int (nI r), .int ld, .int li, .int tl, .int mo])), (rg, .inr (1, [.ref ro, .ref rl, .int pl])), (ro, .inl (cI, 4, .inl fo)), (rl, .inl (cI, 28, .inl (sh fl))), (tr, .inr (1, [.ref t0, .ref t1, .int jp])), (t0, .inl (cI, 4, .inl jo)), (t1, .inl (cI, 28, .inl jl))]) [0, 1, 2, 3, 4, 5, 6] (by decide) rfl).weaken (fun _ z9 _ h9 => hAL _ h9)
  have hKc := hK.sub (tys' := [(cI, .int)]) [0] rfl
  refine c_callX (vx_runV (As := [.int v, .int u]) (rest := [.int 0, .ref qo]) ⟨hx, hb, hml, hown, hts⟩ (k_setLimit l hfl D L0 cI x rg tr pn ro rl d r ld li tl mo pl fo fl t0 t1 jp jo jl v u hd hr) (cwV 2 hts gL_setLimit_X2_setLimit rfl rfl rfl (by decide +kernel) ⟨Nat.le_of_ble_eq_true rfl, Nat.le_of_ble_eq_true rfl⟩) ⟨cP_blind, va_recv hKc hPc (ci := 2) (q0 := 0) rfl rfl, cP_of hPc hKc hDc (kE_at hE0 hAL hS)⟩ rfl rfl hl.1 rfl (lv_room (Nat.le_of_ble_eq_true rfl)) dL_setLimit_5 ⟨Nat.le_of_ble_eq_true rfl, Nat.le_of_ble_eq_true rfl⟩) hS (fun z9 _ ⟨k9, e9, h9⟩ => (hD.sub (ws' := [(x, .inr (2, [.ref rg, .ref tr, .ref pn, .int (nI d), .int (nI r), .int ld, .int li, .int tl, .int mo])), (rg, .inr (1, [.ref ro, .ref rl, .int pl])), (ro, .inl (cI, 4, .inl fo)), (rl, .inl (cI, 28, .inl (sh fl))), (tr, .inr (1, [.ref t0, .ref t1, .int jp])), (t0, .inl (cI, 4, .inl jo)), (t1, .inl (cI, 28, .inl jl))]) [0, 1, 2, 3, 4, 5, 6] (by decide) rfl).2 k9 (z9, e9) h9) (fun z9 ⟨k9, e9, h9⟩ => (hD.sub (ws' := [(x, .inr (2, [.ref rg, .ref tr, .ref pn, .int (nI d), .int (nI r), .int ld, .int li, .int tl, .int mo])), (rg, .inr (1, [.ref ro, .ref rl, .int pl])), (ro, .inl (cI, 4, .inl fo)), (rl, .inl (cI, 28, .inl (sh fl))), (tr, .inr (1, [.ref t0, .ref t1, .int jp])), (t0, .inl (cI, 4, .inl jo)), (t1, .inl (cI, 28, .inl jl))]) [0, 1, 2, 3, 4, 5, 6] (by decide) rfl).2 k9 (z9, e9) h9) (fun z9 _ ⟨k9, e9, h9⟩ => (hD.sub (ws' := [(x, .inr (2, [.ref rg, .ref tr, .ref pn, .int (nI d), .int (nI r), .int ld, .int li, .int tl, .int mo])), (rg, .inr (1, [.ref ro, .ref rl, .int pl])), (ro, .inl (cI, 4, .inl fo)), (rl, .inl (cI, 28, .inl (sh fl))), (tr, .inr (1, [.ref t0, .ref t1, .int jp])), (t0, .inl (cI, 4, .inl jo)), (t1, .inl (cI, 28, .inl jl))]) [0, 1, 2, 3, 4, 5, 6] (by decide) rfl).2 k9 (z9, e9) h9) (fun E ce q9 H1 locs hE hB hz1 hk1 hS hce hcv hcl => ?_) (fun H1 locs hB hz1 hk1 hS => ?_)
  · obtain ⟨p9, o9, l9, hB⟩ := hB
    obtain ⟨hP, hD⟩ := c_join (ws' := [(x, .inr (2, [.ref rg, .ref tr, .ref pn, .int (nI d), .int (nI r), .int ld, .int li, .int tl, .int mo])), (rg, .inr (1, [.ref ro, .ref rl, .int pl])), (ro, .inl (cI, 4, .inl fo)), (rl, .inl (cI, 28, .inl (sh fl))), (tr, .inr (1, [.ref t0, .ref t1, .int p9])), (t0, .inl (cI, 4, .inl o9)), (t1, .inl (cI, 28, .inl l9)), (qo, .inl (cJ, 1, .inr (.inl g0)))]) (wr := [(qo, .inl (cJ, 1, .inr (.inl g0)))]) (w1 := [(x, .inr (2, [.ref rg, .ref tr, .ref pn, .int (nI d), .int (nI r), .int ld, .int li, .int tl, .int mo])), (rg, .inr (1, [.ref ro, .ref rl, .int pl])), (ro, .inl (cI, 4, .inl fo)), (rl, .inl (cI, 28, .inl (sh fl))), (tr, .inr (1, [.ref t0, .ref t1, .int p9])), (t0, .inl (cI, 4, .inl o9)), (t1, .inl (cI, 28, .inl l9))]) hP hD [0, 1, 2, 3, 4, 5, 6] [7] [1, 2, 3, 4, 5, 6, 7, 0] rfl rfl (by decide) (by decide) hk1 hB rfl rfl rfl (by decide)
    generalize H1 = H at hP hS hce ⊢
    rcases hE with ⟨rfl, hk⟩ | ⟨rfl, hk⟩
    · have hkn : ¬ kSL (fun k q => safS fo (upd fl k q) pl ld d r) v u = 0 := by rw [hk]; decide
      refine c_catch (L0 := L0) hown hE0 (Or.inl rfl) [] ⟨0, 10, 13, 13⟩ [⟨0, 10, 17, 15⟩] (htb.trans rfl) (fun z9 h9 => absurd h9 List.not_mem_nil) (by decide) (by decide) (hts (.classLink RL 13 xIAE) (by decide +kernel)) hce hcv hcl ?_
      show W _ _ _ _ _ _ _ _ _ _ _ _ _ _ _ (F0 m 13 ls [.ref q9])
      refine lv_astore (lv' := [(4, .ref q9), (0, .ref x), (1, .int v), (2, .int u), (3, .ref qo)]) hx hb dL_setLimit_13 hl (by decide) rfl (fun ls hl => ?_)
      refine lv_iconst (v := 1) hx hb dL_setLimit_15 (by decide) ?_
      refine W.widen (k := 2) (n := 12) (Nat.le_of_ble_eq_true rfl) (Nat.le_of_ble_eq_true rfl) ?_
      exact W.iret (v := 1) hx hb hRt (fun t ht hW => ⟨⟨by rw [hk], by rw [ht]; simp only [if_neg hkn]; exact ⟨g0, _, _, _, (fun h => absurd h hkn), hP⟩⟩, hS.F ht⟩) hS.2.2 dL_setLimit_16
    · have hkn : ¬ kSL (fun k q => safS fo (upd fl k q) pl ld d r) v u = 0 := by rw [hk]; decide
      refine c_catch (L0 := L0) hown hE0 (Or.inr (Or.inl rfl)) [⟨0, 10, 13, 13⟩] ⟨0, 10, 17, 15⟩ [] (htb.trans rfl) (fun z9 h9 => by
            simp only [List.mem_cons, List.not_mem_nil, or_false] at h9
            rcases h9 with rfl
            · exact ⟨by decide, xIAE, hts (.classLink RL 13 xIAE) (by decide +kernel), (kE_nc hE0).2.2.1⟩) (by decide) (by decide) (hts (.classLink RL 15 xISE) (by decide +kernel)) hce hcv hcl ?_
      show W _ _ _ _ _ _ _ _ _ _ _ _ _ _ _ (F0 m 17 ls [.ref q9])
      refine lv_astore (lv' := [(4, .ref q9), (0, .ref x), (1, .int v), (2, .int u), (3, .ref qo)]) hx hb dL_setLimit_17 hl (by decide) rfl (fun ls hl => ?_)
      refine lv_iconst (v := 2) hx hb dL_setLimit_19 (by decide) ?_
      refine W.widen (k := 2) (n := 12) (Nat.le_of_ble_eq_true rfl) (Nat.le_of_ble_eq_true rfl) ?_
      exact W.iret (v := 2) hx hb hRt (fun t ht hW => ⟨⟨by rw [hk], by rw [ht]; simp only [if_neg hkn]; exact ⟨g0, _, _, _, (fun h => absurd h hkn), hP⟩⟩, hS.F ht⟩) hS.2.2 dL_setLimit_20
  · obtain ⟨hk0, p9, o9, l9, hB⟩ := hB
    obtain ⟨hP, hD⟩ := c_join (ws' := [(x, .inr (2, [.ref rg, .ref tr, .ref pn, .int (nI d), .int (nI r), .int ld, .int li, .int tl, .int mo])), (rg, .inr (1, [.ref ro, .ref rl, .int pl])), (ro, .inl (cI, 4, .inl fo)), (rl, .inl (cI, 28, .inl (sh (upd fl v.toNatClampNeg u)))), (tr, .inr (1, [.ref t0, .ref t1, .int p9])), (t0, .inl (cI, 4, .inl o9)), (t1, .inl (cI, 28, .inl l9)), (qo, .inl (cJ, 1, .inr (.inl g0)))]) (wr := [(qo, .inl (cJ, 1, .inr (.inl g0)))]) (w1 := [(x, .inr (2, [.ref rg, .ref tr, .ref pn, .int (nI d), .int (nI r), .int ld, .int li, .int tl, .int mo])), (rg, .inr (1, [.ref ro, .ref rl, .int pl])), (ro, .inl (cI, 4, .inl fo)), (rl, .inl (cI, 28, .inl (sh (upd fl v.toNatClampNeg u)))), (tr, .inr (1, [.ref t0, .ref t1, .int p9])), (t0, .inl (cI, 4, .inl o9)), (t1, .inl (cI, 28, .inl l9))]) hP hD [0, 1, 2, 3, 4, 5, 6] [7] [1, 2, 3, 4, 5, 6, 7, 0] rfl rfl (by decide) (by decide) hk1 hB rfl rfl rfl (by decide)
    generalize H1 = H at hP hS ⊢
    show W _ _ _ _ _ _ _ _ _ _ _ _ _ _ _ (F0 m 8 ls [.int (fl v.toNatClampNeg), .int 0, .ref qo])
    refine lv_i2l hx hb dL_setLimit_8 rfl ?_
    refine va_last hx hb hK hP hD hS 7 1 rfl rfl (vp_in_nI (n := 0) (by decide) (by decide)) dL_setLimit_9 (fun H locs hP hD hS => ?_)
    have hP : va_P D vwCl [(x, .inr (2, [.ref rg, .ref tr, .ref pn, .int (nI d), .int (nI r), .int ld, .int li, .int tl, .int mo])), (rg, .inr (1, [.ref ro, .ref rl, .int pl])), (ro, .inl (cI, 4, .inl fo)), (rl, .inl (cI, 28, .inl (sh (upd fl v.toNatClampNeg u)))), (tr, .inr (1, [.ref t0, .ref t1, .int p9])), (t0, .inl (cI, 4, .inl o9)), (t1, .inl (cI, 28, .inl l9)), (qo, .inl (cJ, 1, .inr (.inl (vp_updL g0 0 ((fl v.toNatClampNeg).toInt64)))))] H := hP
    have hD : va_D A [(x, .inr (2, [.ref rg, .ref tr, .ref pn, .int (nI d), .int (nI r), .int ld, .int li, .int tl, .int mo])), (rg, .inr (1, [.ref ro, .ref rl, .int pl])), (ro, .inl (cI, 4, .inl fo)), (rl, .inl (cI, 28, .inl (sh (upd fl v.toNatClampNeg u)))), (tr, .inr (1, [.ref t0, .ref t1, .int p9])), (t0, .inl (cI, 4, .inl o9)), (t1, .inl (cI, 28, .inl l9)), (qo, .inl (cJ, 1, .inr (.inl (vp_updL g0 0 ((fl v.toNatClampNeg).toInt64)))))] := hD
    refine lv_goto (tgt := 21) hx hb dL_setLimit_10 (by decide) ?_
    refine lv_iconst (v := 0) hx hb dL_setLimit_21 (by decide) ?_
    refine W.widen (k := 2) (n := 12) (Nat.le_of_ble_eq_true rfl) (Nat.le_of_ble_eq_true rfl) ?_
    exact W.iret (v := 0) hx hb hRt (fun t ht hW => ⟨⟨by rw [hk0], by rw [ht]; simp only [if_pos hk0]; exact ⟨vp_updL g0 0 ((fl v.toNatClampNeg).toInt64), _, _, _, (fun _ => pk_uLs), hP⟩⟩, hS.F ht⟩) hS.2.2 dL_setLimit_22
set_option maxHeartbeats 4000000 in
set_option maxRecDepth 100000 in
/-- the law of lift -/
theorem w_lift (l : Launch) (hfl : l.stackTraces = false) (D : va_G) (L0 : Nat) (cI cJ : ClassId) (x rg tr pn ro rl d r : Nat) (ld li tl mo pl : Int32) (fo fl : Nat → Int32) (qo : Nat) (g0 : Nat → Int64) (v : Int32) (hd : d < 8) (hr : 3 ≤ r ∧ r ≤ 30) : Met l yL_lift wsL_lift ({ frames := 8, cells := 2, slots := 12, locals := 129 }) (cP L0 D [(cI, .int), (cJ, .long)] [(x, .inr (2, [.ref rg, .ref tr, .ref pn, .int (nI d), .int (nI r), .int ld, .int li, .int tl, .int mo])), (rg, .inr (1, [.ref ro, .ref rl, .int pl])), (ro, .inl (cI, 4, .inl fo)), (rl, .inl (cI, 28, .inl (sh fl))), (qo, .inl (cJ, 1, .inr (.inl g0)))] [.ref x, .int v, .ref qo]) (cB (some (.int (kLi ld (fun q => safS fo fl pl q d r) v))) (fun H => ∃ g9 : Nat → Int64, (kLi ld (fun q => safS fo fl pl q d r) v = 0 → g9 0 = (li + 1).toInt64) ∧ va_P D vwCl [(x, .inr (2, [.ref rg, .ref tr, .ref pn, .int (nI d), .int (nI r), .int (if kLi ld (fun q => safS fo fl pl q d r) v = 0 then v else ld), .int (if kLi ld (fun q => safS fo fl pl q d r) v = 0 then li + 1 else li), .int (if kLi ld (fun q => safS fo fl pl q d r) v = 0 then tl + v else tl), .int mo])), (rg, .inr (1, [.ref ro, .ref rl, .int pl])), (ro, .inl (cI, 4, .inl fo)), (rl, .inl (cI, 28, .inl (sh fl))), (qo, .inl (cJ, 1, .inr (.inl g9)))] H) (cA [(x, .inr (2, [.ref rg, .ref tr, .ref pn, .int (nI d), .int (nI r), .int ld, .int li, .int tl, .int mo])), (rg, .inr (1, [.ref ro, .ref rl, .int pl])), (ro, .inl (cI, 4, .inl fo)), (rl, .inl (cI, 28, .inl (sh fl))), (qo, .inl (cJ, 1, .inr (.inl g0)))])) 2 12 (cA [(x, .inr (2, [.ref rg, .ref tr, .ref pn, .int (nI d), .int (nI r), .int ld, .int li, .int tl, .int mo])), (rg, .inr (1, [.ref ro, .ref rl, .int pl])), (ro, .inl (cI, 4, .inl fo)), (rl, .inl (cI, 28, .inl (sh fl))), (qo, .inl (cJ, 1, .inr (.inl g0)))]) := by
  refine c_ofWH (cc := cL_lift) (maxL := 4) (ret := (some .int)) (by decide) rfl ?_
  intro p e s m args below meth c s₁ B hml hv
  obtain ⟨rfl, hP, hK, hD0, hE0⟩ := hv
  have hx := B.exec
  have hb := B.bytes
  have hRt := B.returns
  have hts := atoms_spec (ws := wsL_lift) B.pre
  have hown : s.vm.findClass RL = some m.cls := findClass_of_methodNamed B.named
  have hlocks := B.notSynchronized
  have hAL : ∀ z9 : Nat, cA [(x, .inr (2, [.ref rg, .ref tr, .ref pn, .int (nI d), .int (nI r), .int ld, .int li, .int tl, .int mo])), (rg, .inr (1, [.ref ro, .ref rl, .int pl])), (ro, .inl (cI, 4, .inl fo)), (rl, .inl (cI, 28, .inl (sh fl))), (qo, .inl (cJ, 1, .inr (.inl g0)))] z9 → L0 ≤ z9 := fun z9 ⟨k9, e9, h9⟩ => hD0.2 k9 (z9, e9) h9
  have hD : va_D (cA [(x, .inr (2, [.ref rg, .ref tr, .ref pn, .int (nI d), .int (nI r), .int ld, .int li, .int tl, .int mo])), (rg, .inr (1, [.ref ro, .ref rl, .int pl])), (ro, .inl (cI, 4, .inl fo)), (rl, .inl (cI, 28, .inl (sh fl))), (qo, .inl (cJ, 1, .inr (.inl g0)))]) [(x, .inr (2, [.ref rg, .ref tr, .ref pn, .int (nI d), .int (nI r), .int ld, .int li, .int tl, .int mo])), (rg, .inr (1, [.ref ro, .ref rl, .int pl])), (ro, .inl (cI, 4, .inl fo)), (rl, .inl (cI, 28, .inl (sh fl))), (qo, .inl (cJ, 1, .inr (.inl g0)))] := ⟨hD0.1, fun k9 z9 h9 => cA_of h9⟩
  generalize hAe : cA [(x, .inr (2, [.ref rg, .ref tr, .ref pn, .int (nI d), .int (nI r), .int ld, .int li, .int tl, .int mo])), (rg, .inr (1, [.ref ro, .ref rl, .int pl])), (ro, .inl (cI, 4, .inl fo)), (rl, .inl (cI, 28, .inl (sh fl))), (qo, .inl (cJ, 1, .inr (.inl g0)))] = A at hD hAL ⊢
  have hS : va_S A s.heap s.heap [] := va_S.rf
  have hl := lv_entry ([.ref x, .int v, .ref qo]) (n := 4) (Nat.le_of_ble_eq_true rfl)
  rw [lg_entry_eq]
  generalize (lg_sl ([.ref x, .int v, .ref qo]) ++ List.replicate (4 - (lg_sl ([.ref x, .int v, .ref qo])).length) Slot.unset).toArray = ls at hl ⊢
  have hl : lv_has ls 4 [(0, .ref x), (1, .int v), (2, .ref qo)] := hl
  have htb := vx_table (x := yL_lift) B (hts (.codeWith yL_lift cL_lift 4 (some .int) [(0, 9, 12, 13), (0, 9, 15, 15)]) (by decide +kernel))
  refine lv_aload_n hx hb dL_lift_0 rfl (lv_at hl 2 rfl) ?_
  refine lv_iconst (v := 0) hx hb dL_lift_1 (by decide) ?_
  refine lv_aload_n hx hb dL_lift_2 rfl (lv_at hl 0 rfl) ?_
  refine lv_iload_n hx hb dL_lift_3 rfl (lv_at hl 1 rfl) ?_
  have hPc := hP.sub (ws' := [(x, .inr (2, [.ref rg, .ref tr, .ref pn, .int (nI d), .int (nI r), .int ld, .int li, .int tl, .int mo])), (rg, .inr (1, [.ref ro, .ref rl, .int pl])), (ro, .inl (cI, 4, .inl fo)), (rl, .inl (cI, 28, .inl (sh fl)))]) [0, 1, 2, 3] rfl
  have hDc : va_D (fun q : Nat => L0 ≤ q) [(x, .inr (2, [.ref rg, .ref tr, .ref pn, .int (nI d), .int (nI r), .int ld, .int li, .int tl, .int mo])), (rg, .inr (1, [.ref ro, .ref rl, .int pl])), (ro, .inl (cI, 4, .inl fo)), (rl, .inl (cI, 28, .inl (sh fl)))] := (hD.sub (ws' := [(x, .inr (2, [.ref rg, .ref tr, .ref pn, .int (nI d), .int (nI r), .int ld, .int li, .int tl, .int mo])), (rg, .inr (1, [.ref ro, .ref rl, .int pl])), (ro, .inl (cI, 4, .inl fo)), (rl, .inl (cI, 28, .inl (sh fl)))]) [0, 1, 2, 3] (by decide) rfl).weaken (fun _ z9 _ h9 => hAL _ h9)
  have hKc := hK.sub (tys' := [(cI, .int)]) [0] rfl
  refine c_callX (vx_runV (As := [.int v]) (rest := [.int 0, .ref qo]) ⟨hx, hb, hml, hown, hts⟩ (k_lift l hfl D L0 cI x rg tr pn ro rl d r ld li tl mo pl fo fl v hd hr) (cwV 1 hts gL_lift_X2_lift rfl rfl rfl (by decide +kernel) ⟨Nat.le_of_ble_eq_true rfl, Nat.le_of_ble_eq_true rfl⟩) ⟨cP_blind, va_recv hKc hPc (ci := 2) (q0 := 0) rfl rfl, cP_of hPc hKc hDc (kE_at hE0 hAL hS)⟩ rfl rfl hl.1 rfl (lv_room (Nat.le_of_ble_eq_true rfl)) dL_lift_4 ⟨Nat.le_of_ble_eq_true rfl, Nat.le_of_ble_eq_true rfl⟩) hS (fun z9 _ ⟨k9, e9, h9⟩ => (hD.sub (ws' := [(x, .inr (2, [.ref rg, .ref tr, .ref pn, .int (nI d), .int (nI r), .int ld, .int li, .int tl, .int mo])), (rg, .inr (1, [.ref ro, .ref rl, .int pl])), (ro, .inl (cI, 4, .inl fo)), (rl, .inl (cI, 28, .inl (sh fl)))]) [0, 1, 2, 3] (by decide) rfl).2 k9 (z9, e9) h9) (fun z9 ⟨k9, e9, h9⟩ => (hD.sub (ws' := [(x, .inr (2, [.ref rg, .ref tr, .ref pn, .int (nI d), .int (nI r), .int ld, .int li, .int tl, .int mo])), (rg, .inr (1, [.ref ro, .ref rl, .int pl])), (ro, .inl (cI, 4, .inl fo)), (rl, .inl (cI, 28, .inl (sh fl)))]) [0, 1, 2, 3] (by decide) rfl).2 k9 (z9, e9) h9) (fun z9 _ ⟨k9, e9, h9⟩ => (hD.sub (ws' := [(x, .inr (2, [.ref rg, .ref tr, .ref pn, .int (nI d), .int (nI r), .int ld, .int li, .int tl, .int mo])), (rg, .inr (1, [.ref ro, .ref rl, .int pl])), (ro, .inl (cI, 4, .inl fo)), (rl, .inl (cI, 28, .inl (sh fl)))]) [0, 1, 2, 3] (by decide) rfl).2 k9 (z9, e9) h9) (fun E ce q9 H1 locs hE hB hz1 hk1 hS hce hcv hcl => ?_) (fun H1 locs hB hz1 hk1 hS => ?_)
  · obtain ⟨hP, hD⟩ := c_join (ws' := [(x, .inr (2, [.ref rg, .ref tr, .ref pn, .int (nI d), .int (nI r), .int ld, .int li, .int tl, .int mo])), (rg, .inr (1, [.ref ro, .ref rl, .int pl])), (ro, .inl (cI, 4, .inl fo)), (rl, .inl (cI, 28, .inl (sh fl))), (qo, .inl (cJ, 1, .inr (.inl g0)))]) (wr := [(qo, .inl (cJ, 1, .inr (.inl g0)))]) (w1 := [(x, .inr (2, [.ref rg, .ref tr, .ref pn, .int (nI d), .int (nI r), .int ld, .int li, .int tl, .int mo])), (rg, .inr (1, [.ref ro, .ref rl, .int pl])), (ro, .inl (cI, 4, .inl fo)), (rl, .inl (cI, 28, .inl (sh fl)))]) hP hD [0, 1, 2, 3] [4] [1, 2, 3, 4, 0] rfl rfl (by decide) (by decide) hk1 hB rfl rfl rfl (by decide)
    generalize H1 = H at hP hS hce ⊢
    rcases hE with ⟨rfl, hk⟩ | ⟨rfl, hk⟩
    · have hkn : ¬ kLi ld (fun q => safS fo fl pl q d r) v = 0 := by rw [hk]; decide
      refine c_catch (L0 := L0) hown hE0 (Or.inl rfl) [] ⟨0, 9, 12, 13⟩ [⟨0, 9, 15, 15⟩] (htb.trans rfl) (fun z9 h9 => absurd h9 List.not_mem_nil) (by decide) (by decide) (hts (.classLink RL 13 xIAE) (by decide +kernel)) hce hcv hcl ?_
      show W _ _ _ _ _ _ _ _ _ _ _ _ _ _ _ (F0 m 12 ls [.ref q9])
      refine lv_astore_n (lv' := [(3, .ref q9), (0, .ref x), (1, .int v), (2, .ref qo)]) hx hb dL_lift_12 rfl hl (by decide) rfl (fun ls hl => ?_)
      refine lv_iconst (v := 1) hx hb dL_lift_13 (by decide) ?_
      refine W.widen (k := 2) (n := 12) (Nat.le_of_ble_eq_true rfl) (Nat.le_of_ble_eq_true rfl) ?_
      exact W.iret (v := 1) hx hb hRt (fun t ht hW => ⟨⟨by rw [hk], by rw [ht]; simp only [if_neg hkn]; exact ⟨g0, (fun h => absurd h hkn), hP⟩⟩, hS.F ht⟩) hS.2.2 dL_lift_14
    · have hkn : ¬ kLi ld (fun q => safS fo fl pl q d r) v = 0 := by rw [hk]; decide
      refine c_catch (L0 := L0) hown hE0 (Or.inr (Or.inl rfl)) [⟨0, 9, 12, 13⟩] ⟨0, 9, 15, 15⟩ [] (htb.trans rfl) (fun z9 h9 => by
            simp only [List.mem_cons, List.not_mem_nil, or_false] at h9
            rcases h9 with rfl
            · exact ⟨by decide, xIAE, hts (.classLink RL 13 xIAE) (by decide +kernel), (kE_nc hE0).2.2.1⟩) (by decide) (by decide) (hts (.classLink RL 15 xISE) (by decide +kernel)) hce hcv hcl ?_
      show W _ _ _ _ _ _ _ _ _ _ _ _ _ _ _ (F0 m 15 ls [.ref q9])
      refine lv_astore_n (lv' := [(3, .ref q9), (0, .ref x), (1, .int v), (2, .ref qo)]) hx hb dL_lift_15 rfl hl (by decide) rfl (fun ls hl => ?_)
      refine lv_iconst (v := 2) hx hb dL_lift_16 (by decide) ?_
      refine W.widen (k := 2) (n := 12) (Nat.le_of_ble_eq_true rfl) (Nat.le_of_ble_eq_true rfl) ?_
      exact W.iret (v := 2) hx hb hRt (fun t ht hW => ⟨⟨by rw [hk], by rw [ht]; simp only [if_neg hkn]; exact ⟨g0, (fun h => absurd h hkn), hP⟩⟩, hS.F ht⟩) hS.2.2 dL_lift_17
  · obtain ⟨hk0, hB⟩ := hB
    obtain ⟨hP, hD⟩ := c_join (ws' := [(x, .inr (2, [.ref rg, .ref tr, .ref pn, .int (nI d), .int (nI r), .int v, .int (li + 1), .int (tl + v), .int mo])), (rg, .inr (1, [.ref ro, .ref rl, .int pl])), (ro, .inl (cI, 4, .inl fo)), (rl, .inl (cI, 28, .inl (sh fl))), (qo, .inl (cJ, 1, .inr (.inl g0)))]) (wr := [(qo, .inl (cJ, 1, .inr (.inl g0)))]) (w1 := [(x, .inr (2, [.ref rg, .ref tr, .ref pn, .int (nI d), .int (nI r), .int v, .int (li + 1), .int (tl + v), .int mo])), (rg, .inr (1, [.ref ro, .ref rl, .int pl])), (ro, .inl (cI, 4, .inl fo)), (rl, .inl (cI, 28, .inl (sh fl)))]) hP hD [0, 1, 2, 3] [4] [1, 2, 3, 4, 0] rfl rfl (by decide) (by decide) hk1 hB rfl rfl rfl (by decide)
    generalize H1 = H at hP hS ⊢
    show W _ _ _ _ _ _ _ _ _ _ _ _ _ _ _ (F0 m 7 ls [.int (li + 1), .int 0, .ref qo])
    refine lv_i2l hx hb dL_lift_7 rfl ?_
    refine va_last hx hb hK hP hD hS 4 1 rfl rfl (vp_in_nI (n := 0) (by decide) (by decide)) dL_lift_8 (fun H locs hP hD hS => ?_)
    have hP : va_P D vwCl [(x, .inr (2, [.ref rg, .ref tr, .ref pn, .int (nI d), .int (nI r), .int v, .int (li + 1), .int (tl + v), .int mo])), (rg, .inr (1, [.ref ro, .ref rl, .int pl])), (ro, .inl (cI, 4, .inl fo)), (rl, .inl (cI, 28, .inl (sh fl))), (qo, .inl (cJ, 1, .inr (.inl (vp_updL g0 0 ((li + 1).toInt64)))))] H := hP
    have hD : va_D A [(x, .inr (2, [.ref rg, .ref tr, .ref pn, .int (nI d), .int (nI r), .int v, .int (li + 1), .int (tl + v), .int mo])), (rg, .inr (1, [.ref ro, .ref rl, .int pl])), (ro, .inl (cI, 4, .inl fo)), (rl, .inl (cI, 28, .inl (sh fl))), (qo, .inl (cJ, 1, .inr (.inl (vp_updL g0 0 ((li + 1).toInt64)))))] := hD
    refine lv_goto (tgt := 18) hx hb dL_lift_9 (by decide) ?_
    refine lv_iconst (v := 0) hx hb dL_lift_18 (by decide) ?_
    refine W.widen (k := 2) (n := 12) (Nat.le_of_ble_eq_true rfl) (Nat.le_of_ble_eq_true rfl) ?_
    exact W.iret (v := 0) hx hb hRt (fun t ht hW => ⟨⟨by rw [hk0], by rw [ht]; simp only [if_pos hk0]; exact ⟨vp_updL g0 0 ((li + 1).toInt64), (fun _ => pk_uLs), hP⟩⟩, hS.F ht⟩) hS.2.2 dL_lift_19
set_option maxHeartbeats 4000000 in
set_option maxRecDepth 100000 in
/-- the law of setDown -/
theorem w_setDown (l : Launch) (hfl : l.stackTraces = false) (D : va_G) (L0 : Nat) (cI cJ : ClassId) (x rg tr pn ro rl d r : Nat) (ld li tl mo pl : Int32) (fo fl : Nat → Int32) (qo : Nat) (g0 : Nat → Int64) (hd : d < 8) (hr : 3 ≤ r ∧ r ≤ 30) : Met l yL_setDown wsL_setDown ({ frames := 8, cells := 1, slots := 6, locals := 129 }) (cP L0 D [(cI, .int), (cJ, .long)] [(x, .inr (2, [.ref rg, .ref tr, .ref pn, .int (nI d), .int (nI r), .int ld, .int li, .int tl, .int mo])), (rg, .inr (1, [.ref ro, .ref rl, .int pl])), (ro, .inl (cI, 4, .inl fo)), (rl, .inl (cI, 28, .inl (sh fl))), (qo, .inl (cJ, 1, .inr (.inl g0)))] [.ref x, .ref qo]) (cB (some (.int (kSD ld (fun q => safS fo fl pl q d r)))) (fun H => ∃ g9 : Nat → Int64, (kSD ld (fun q => safS fo fl pl q d r) = 0 → g9 0 = ld.toInt64) ∧ va_P D vwCl [(x, .inr (2, [.ref rg, .ref tr, .ref pn, .int (nI d), .int (nI r), .int (if kSD ld (fun q => safS fo fl pl q d r) = 0 then 0 else ld), .int li, .int tl, .int mo])), (rg, .inr (1, [.ref ro, .ref rl, .int pl])), (ro, .inl (cI, 4, .inl fo)), (rl, .inl (cI, 28, .inl (sh fl))), (qo, .inl (cJ, 1, .inr (.inl g9)))] H) (cA [(x, .inr (2, [.ref rg, .ref tr, .ref pn, .int (nI d), .int (nI r), .int ld, .int li, .int tl, .int mo])), (rg, .inr (1, [.ref ro, .ref rl, .int pl])), (ro, .inl (cI, 4, .inl fo)), (rl, .inl (cI, 28, .inl (sh fl))), (qo, .inl (cJ, 1, .inr (.inl g0)))])) 1 6 (cA [(x, .inr (2, [.ref rg, .ref tr, .ref pn, .int (nI d), .int (nI r), .int ld, .int li, .int tl, .int mo])), (rg, .inr (1, [.ref ro, .ref rl, .int pl])), (ro, .inl (cI, 4, .inl fo)), (rl, .inl (cI, 28, .inl (sh fl))), (qo, .inl (cJ, 1, .inr (.inl g0)))]) := by
  refine c_ofWH (cc := cL_setDown) (maxL := 3) (ret := (some .int)) (by decide) rfl ?_
  intro p e s m args below meth c s₁ B hml hv
  obtain ⟨rfl, hP, hK, hD0, hE0⟩ := hv
  have hx := B.exec
  have hb := B.bytes
  have hRt := B.returns
  have hts := atoms_spec (ws := wsL_setDown) B.pre
  have hown : s.vm.findClass RL = some m.cls := findClass_of_methodNamed B.named
  have hlocks := B.notSynchronized
  have hAL : ∀ z9 : Nat, cA [(x, .inr (2, [.ref rg, .ref tr, .ref pn, .int (nI d), .int (nI r), .int ld, .int li, .int tl, .int mo])), (rg, .inr (1, [.ref ro, .ref rl, .int pl])), (ro, .inl (cI, 4, .inl fo)), (rl, .inl (cI, 28, .inl (sh fl))), (qo, .inl (cJ, 1, .inr (.inl g0)))] z9 → L0 ≤ z9 := fun z9 ⟨k9, e9, h9⟩ => hD0.2 k9 (z9, e9) h9
  have hD : va_D (cA [(x, .inr (2, [.ref rg, .ref tr, .ref pn, .int (nI d), .int (nI r), .int ld, .int li, .int tl, .int mo])), (rg, .inr (1, [.ref ro, .ref rl, .int pl])), (ro, .inl (cI, 4, .inl fo)), (rl, .inl (cI, 28, .inl (sh fl))), (qo, .inl (cJ, 1, .inr (.inl g0)))]) [(x, .inr (2, [.ref rg, .ref tr, .ref pn, .int (nI d), .int (nI r), .int ld, .int li, .int tl, .int mo])), (rg, .inr (1, [.ref ro, .ref rl, .int pl])), (ro, .inl (cI, 4, .inl fo)), (rl, .inl (cI, 28, .inl (sh fl))), (qo, .inl (cJ, 1, .inr (.inl g0)))] := ⟨hD0.1, fun k9 z9 h9 => cA_of h9⟩
  generalize hAe : cA [(x, .inr (2, [.ref rg, .ref tr, .ref pn, .int (nI d), .int (nI r), .int ld, .int li, .int tl, .int mo])), (rg, .inr (1, [.ref ro, .ref rl, .int pl])), (ro, .inl (cI, 4, .inl fo)), (rl, .inl (cI, 28, .inl (sh fl))), (qo, .inl (cJ, 1, .inr (.inl g0)))] = A at hD hAL ⊢
  have hS : va_S A s.heap s.heap [] := va_S.rf
  have hl := lv_entry ([.ref x, .ref qo]) (n := 3) (Nat.le_of_ble_eq_true rfl)
  rw [lg_entry_eq]
  generalize (lg_sl ([.ref x, .ref qo]) ++ List.replicate (3 - (lg_sl ([.ref x, .ref qo])).length) Slot.unset).toArray = ls at hl ⊢
  have hl : lv_has ls 3 [(0, .ref x), (1, .ref qo)] := hl
  have htb := vx_table (x := yL_setDown) B (hts (.codeWith yL_setDown cL_setDown 3 (some .int) [(0, 8, 11, 15)]) (by decide +kernel))
  refine lv_aload_n hx hb dL_setDown_0 rfl (lv_at hl 1 rfl) ?_
  refine lv_iconst (v := 0) hx hb dL_setDown_1 (by decide) ?_
  refine lv_aload_n hx hb dL_setDown_2 rfl (lv_at hl 0 rfl) ?_
  have hPc := hP.sub (ws' := [(x, .inr (2, [.ref rg, .ref tr, .ref pn, .int (nI d), .int (nI r), .int ld, .int li, .int tl, .int mo])), (rg, .inr (1, [.ref ro, .ref rl, .int pl])), (ro, .inl (cI, 4, .inl fo)), (rl, .inl (cI, 28, .inl (sh fl)))]) [0, 1, 2, 3] rfl
  have hDc : va_D (fun q : Nat => L0 ≤ q) [(x, .inr (2, [.ref rg, .ref tr, .ref pn, .int (nI d), .int (nI r), .int ld, .int li, .int tl, .int mo])), (rg, .inr (1, [.ref ro, .ref rl, .int pl])), (ro, .inl (cI, 4, .inl fo)), (rl, .inl (cI, 28, .inl (sh fl)))] := (hD.sub (ws' := [(x, .inr (2, [.ref rg, .ref tr, .ref pn, .int (nI d), .int (nI r), .int ld, .int li, .int tl, .int mo])), (rg, .inr (1, [.ref ro, .ref rl, .int pl])), (ro, .inl (cI, 4, .inl fo)), (rl, .inl (cI, 28, .inl (sh fl)))]) [0, 1, 2, 3] (by decide) rfl).weaken (fun _ z9 _ h9 => hAL _ h9)
  have hKc := hK.sub (tys' := [(cI, .int)]) [0] rfl
  refine c_callX (vx_runV (As := []) (rest := [.int 0, .ref qo]) ⟨hx, hb, hml, hown, hts⟩ (k_setDown l hfl D L0 cI x rg tr pn ro rl d r ld li tl mo pl fo fl hd hr) (cwV 0 hts gL_setDown_X2_setDown rfl rfl rfl (by decide +kernel) ⟨Nat.le_of_ble_eq_true rfl, Nat.le_of_ble_eq_true rfl⟩) ⟨cP_blind, va_recv hKc hPc (ci := 2) (q0 := 0) rfl rfl, cP_of hPc hKc hDc (kE_at hE0 hAL hS)⟩ rfl rfl hl.1 rfl (lv_room (Nat.le_of_ble_eq_true rfl)) dL_setDown_3 ⟨Nat.le_of_ble_eq_true rfl, Nat.le_of_ble_eq_true rfl⟩) hS (fun z9 _ ⟨k9, e9, h9⟩ => (hD.sub (ws' := [(x, .inr (2, [.ref rg, .ref tr, .ref pn, .int (nI d), .int (nI r), .int ld, .int li, .int tl, .int mo])), (rg, .inr (1, [.ref ro, .ref rl, .int pl])), (ro, .inl (cI, 4, .inl fo)), (rl, .inl (cI, 28, .inl (sh fl)))]) [0, 1, 2, 3] (by decide) rfl).2 k9 (z9, e9) h9) (fun z9 ⟨k9, e9, h9⟩ => (hD.sub (ws' := [(x, .inr (2, [.ref rg, .ref tr, .ref pn, .int (nI d), .int (nI r), .int ld, .int li, .int tl, .int mo])), (rg, .inr (1, [.ref ro, .ref rl, .int pl])), (ro, .inl (cI, 4, .inl fo)), (rl, .inl (cI, 28, .inl (sh fl)))]) [0, 1, 2, 3] (by decide) rfl).2 k9 (z9, e9) h9) (fun z9 _ ⟨k9, e9, h9⟩ => (hD.sub (ws' := [(x, .inr (2, [.ref rg, .ref tr, .ref pn, .int (nI d), .int (nI r), .int ld, .int li, .int tl, .int mo])), (rg, .inr (1, [.ref ro, .ref rl, .int pl])), (ro, .inl (cI, 4, .inl fo)), (rl, .inl (cI, 28, .inl (sh fl)))]) [0, 1, 2, 3] (by decide) rfl).2 k9 (z9, e9) h9) (fun E ce q9 H1 locs hE hB hz1 hk1 hS hce hcv hcl => ?_) (fun H1 locs hB hz1 hk1 hS => ?_)
  · obtain ⟨hP, hD⟩ := c_join (ws' := [(x, .inr (2, [.ref rg, .ref tr, .ref pn, .int (nI d), .int (nI r), .int ld, .int li, .int tl, .int mo])), (rg, .inr (1, [.ref ro, .ref rl, .int pl])), (ro, .inl (cI, 4, .inl fo)), (rl, .inl (cI, 28, .inl (sh fl))), (qo, .inl (cJ, 1, .inr (.inl g0)))]) (wr := [(qo, .inl (cJ, 1, .inr (.inl g0)))]) (w1 := [(x, .inr (2, [.ref rg, .ref tr, .ref pn, .int (nI d), .int (nI r), .int ld, .int li, .int tl, .int mo])), (rg, .inr (1, [.ref ro, .ref rl, .int pl])), (ro, .inl (cI, 4, .inl fo)), (rl, .inl (cI, 28, .inl (sh fl)))]) hP hD [0, 1, 2, 3] [4] [1, 2, 3, 4, 0] rfl rfl (by decide) (by decide) hk1 hB rfl rfl rfl (by decide)
    generalize H1 = H at hP hS hce ⊢
    rcases hE with ⟨rfl, hk⟩
    · have hkn : ¬ kSD ld (fun q => safS fo fl pl q d r) = 0 := by rw [hk]; decide
      refine c_catch (L0 := L0) hown hE0 (Or.inr (Or.inl rfl)) [] ⟨0, 8, 11, 15⟩ [] (htb.trans rfl) (fun z9 h9 => absurd h9 List.not_mem_nil) (by decide) (by decide) (hts (.classLink RL 15 xISE) (by decide +kernel)) hce hcv hcl ?_
      show W _ _ _ _ _ _ _ _ _ _ _ _ _ _ _ (F0 m 11 ls [.ref q9])
      refine lv_astore_n (lv' := [(2, .ref q9), (0, .ref x), (1, .ref qo)]) hx hb dL_setDown_11 rfl hl (by decide) rfl (fun ls hl => ?_)
      refine lv_iconst (v := 1) hx hb dL_setDown_12 (by decide) ?_
      refine W.widen (k := 1) (n := 6) (Nat.le_of_ble_eq_true rfl) (Nat.le_of_ble_eq_true rfl) ?_
      exact W.iret (v := 1) hx hb hRt (fun t ht hW => ⟨⟨by rw [hk], by rw [ht]; simp only [if_neg hkn]; exact ⟨g0, (fun h => absurd h hkn), hP⟩⟩, hS.F ht⟩) hS.2.2 dL_setDown_13
  · obtain ⟨hk0, hB⟩ := hB
    obtain ⟨hP, hD⟩ := c_join (ws' := [(x, .inr (2, [.ref rg, .ref tr, .ref pn, .int (nI d), .int (nI r), .int 0, .int li, .int tl, .int mo])), (rg, .inr (1, [.ref ro, .ref rl, .int pl])), (ro, .inl (cI, 4, .inl fo)), (rl, .inl (cI, 28, .inl (sh fl))), (qo, .inl (cJ, 1, .inr (.inl g0)))]) (wr := [(qo, .inl (cJ, 1, .inr (.inl g0)))]) (w1 := [(x, .inr (2, [.ref rg, .ref tr, .ref pn, .int (nI d), .int (nI r), .int 0, .int li, .int tl, .int mo])), (rg, .inr (1, [.ref ro, .ref rl, .int pl])), (ro, .inl (cI, 4, .inl fo)), (rl, .inl (cI, 28, .inl (sh fl)))]) hP hD [0, 1, 2, 3] [4] [1, 2, 3, 4, 0] rfl rfl (by decide) (by decide) hk1 hB rfl rfl rfl (by decide)
    generalize H1 = H at hP hS ⊢
    show W _ _ _ _ _ _ _ _ _ _ _ _ _ _ _ (F0 m 6 ls [.int ld, .int 0, .ref qo])
    refine lv_i2l hx hb dL_setDown_6 rfl ?_
    refine va_last hx hb hK hP hD hS 4 1 rfl rfl (vp_in_nI (n := 0) (by decide) (by decide)) dL_setDown_7 (fun H locs hP hD hS => ?_)
    have hP : va_P D vwCl [(x, .inr (2, [.ref rg, .ref tr, .ref pn, .int (nI d), .int (nI r), .int 0, .int li, .int tl, .int mo])), (rg, .inr (1, [.ref ro, .ref rl, .int pl])), (ro, .inl (cI, 4, .inl fo)), (rl, .inl (cI, 28, .inl (sh fl))), (qo, .inl (cJ, 1, .inr (.inl (vp_updL g0 0 ld.toInt64))))] H := hP
    have hD : va_D A [(x, .inr (2, [.ref rg, .ref tr, .ref pn, .int (nI d), .int (nI r), .int 0, .int li, .int tl, .int mo])), (rg, .inr (1, [.ref ro, .ref rl, .int pl])), (ro, .inl (cI, 4, .inl fo)), (rl, .inl (cI, 28, .inl (sh fl))), (qo, .inl (cJ, 1, .inr (.inl (vp_updL g0 0 ld.toInt64))))] := hD
    refine lv_goto (tgt := 14) hx hb dL_setDown_8 (by decide) ?_
    refine lv_iconst (v := 0) hx hb dL_setDown_14 (by decide) ?_
    refine W.widen (k := 1) (n := 6) (Nat.le_of_ble_eq_true rfl) (Nat.le_of_ble_eq_true rfl) ?_
    exact W.iret (v := 0) hx hb hRt (fun t ht hW => ⟨⟨by rw [hk0], by rw [ht]; simp only [if_pos hk0]; exact ⟨vp_updL g0 0 ld.toInt64, (fun _ => pk_uLs), hP⟩⟩, hS.F ht⟩) hS.2.2 dL_setDown_15
set_option maxHeartbeats 4000000 in
set_option maxRecDepth 100000 in
/-- the law of swing -/
theorem w_swing (l : Launch) (hfl : l.stackTraces = false) (D : va_G) (L0 : Nat) (cI cJ : ClassId) (x rg tr pn ro rl d r : Nat) (ld li tl mo pl : Int32) (fo fl : Nat → Int32) (qo : Nat) (g0 : Nat → Int64) (v : Int32) (u : Int32) (hd : d < 8) (hr : 3 ≤ r ∧ r ≤ 30) : Met l yL_swing wsL_swing ({ frames := 7, cells := 1, slots := 6, locals := 110 }) (cP L0 D [(cI, .int), (cJ, .long)] [(x, .inr (2, [.ref rg, .ref tr, .ref pn, .int (nI d), .int (nI r), .int ld, .int li, .int tl, .int mo])), (rg, .inr (1, [.ref ro, .ref rl, .int pl])), (ro, .inl (cI, 4, .inl fo)), (rl, .inl (cI, 28, .inl (sh fl))), (qo, .inl (cJ, 1, .inr (.inl g0)))] [.ref x, .int v, .int u, .ref qo]) (cB (some (.int (k1 (inR v 1 8)))) (fun H => ∃ g9 : Nat → Int64, (k1 (inR v 1 8) = 0 → g9 0 = (nI (swN (fun k => safS fo fl pl ld k r) (decide (¬ u = 0)) v.toNatClampNeg d).1).toInt64) ∧ va_P D vwCl [(x, .inr (2, [.ref rg, .ref tr, .ref pn, .int (nI (if k1 (inR v 1 8) = 0 then (swN (fun k => safS fo fl pl ld k r) (decide (¬ u = 0)) v.toNatClampNeg d).2 else d)), .int (nI r), .int ld, .int li, .int tl, .int (if k1 (inR v 1 8) = 0 then (if 0 < ld then mo + nI (swN (fun k => safS fo fl pl ld k r) (decide (¬ u = 0)) v.toNatClampNeg d).1 else mo) else mo)])), (rg, .inr (1, [.ref ro, .ref rl, .int pl])), (ro, .inl (cI, 4, .inl fo)), (rl, .inl (cI, 28, .inl (sh fl))), (qo, .inl (cJ, 1, .inr (.inl g9)))] H) (cA [(x, .inr (2, [.ref rg, .ref tr, .ref pn, .int (nI d), .int (nI r), .int ld, .int li, .int tl, .int mo])), (rg, .inr (1, [.ref ro, .ref rl, .int pl])), (ro, .inl (cI, 4, .inl fo)), (rl, .inl (cI, 28, .inl (sh fl))), (qo, .inl (cJ, 1, .inr (.inl g0)))])) 1 6 (cA [(x, .inr (2, [.ref rg, .ref tr, .ref pn, .int (nI d), .int (nI r), .int ld, .int li, .int tl, .int mo])), (rg, .inr (1, [.ref ro, .ref rl, .int pl])), (ro, .inl (cI, 4, .inl fo)), (rl, .inl (cI, 28, .inl (sh fl))), (qo, .inl (cJ, 1, .inr (.inl g0)))]) := by
  refine c_ofWH (cc := cL_swing) (maxL := 5) (ret := (some .int)) (by decide) rfl ?_
  intro p e s m args below meth c s₁ B hml hv
  obtain ⟨rfl, hP, hK, hD0, hE0⟩ := hv
  have hx := B.exec
  have hb := B.bytes
  have hRt := B.returns
  have hts := atoms_spec (ws := wsL_swing) B.pre
  have hown : s.vm.findClass RL = some m.cls := findClass_of_methodNamed B.named
  have hlocks := B.notSynchronized
  have hAL : ∀ z9 : Nat, cA [(x, .inr (2, [.ref rg, .ref tr, .ref pn, .int (nI d), .int (nI r), .int ld, .int li, .int tl, .int mo])), (rg, .inr (1, [.ref ro, .ref rl, .int pl])), (ro, .inl (cI, 4, .inl fo)), (rl, .inl (cI, 28, .inl (sh fl))), (qo, .inl (cJ, 1, .inr (.inl g0)))] z9 → L0 ≤ z9 := fun z9 ⟨k9, e9, h9⟩ => hD0.2 k9 (z9, e9) h9
  have hD : va_D (cA [(x, .inr (2, [.ref rg, .ref tr, .ref pn, .int (nI d), .int (nI r), .int ld, .int li, .int tl, .int mo])), (rg, .inr (1, [.ref ro, .ref rl, .int pl])), (ro, .inl (cI, 4, .inl fo)), (rl, .inl (cI, 28, .inl (sh fl))), (qo, .inl (cJ, 1, .inr (.inl g0)))]) [(x, .inr (2, [.ref rg, .ref tr, .ref pn, .int (nI d), .int (nI r), .int ld, .int li, .int tl, .int mo])), (rg, .inr (1, [.ref ro, .ref rl, .int pl])), (ro, .inl (cI, 4, .inl fo)), (rl, .inl (cI, 28, .inl (sh fl))), (qo, .inl (cJ, 1, .inr (.inl g0)))] := ⟨hD0.1, fun k9 z9 h9 => cA_of h9⟩
  generalize hAe : cA [(x, .inr (2, [.ref rg, .ref tr, .ref pn, .int (nI d), .int (nI r), .int ld, .int li, .int tl, .int mo])), (rg, .inr (1, [.ref ro, .ref rl, .int pl])), (ro, .inl (cI, 4, .inl fo)), (rl, .inl (cI, 28, .inl (sh fl))), (qo, .inl (cJ, 1, .inr (.inl g0)))] = A at hD hAL ⊢
  have hS : va_S A s.heap s.heap [] := va_S.rf
  have hl := lv_entry ([.ref x, .int v, .int u, .ref qo]) (n := 5) (Nat.le_of_ble_eq_true rfl)
  rw [lg_entry_eq]
  generalize (lg_sl ([.ref x, .int v, .int u, .ref qo]) ++ List.replicate (5 - (lg_sl ([.ref x, .int v, .int u, .ref qo])).length) Slot.unset).toArray = ls at hl ⊢
  have hl : lv_has ls 5 [(0, .ref x), (1, .int v), (2, .int u), (3, .ref qo)] := hl
  have htb := vx_table (x := yL_swing) B (hts (.codeWith yL_swing cL_swing 5 (some .int) [(0, 10, 13, 13)]) (by decide +kernel))
  refine lv_aload_n hx hb dL_swing_0 rfl (lv_at hl 3 rfl) ?_
  refine lv_iconst (v := 0) hx hb dL_swing_1 (by decide) ?_
  refine lv_aload_n hx hb dL_swing_2 rfl (lv_at hl 0 rfl) ?_
  refine lv_iload_n hx hb dL_swing_3 rfl (lv_at hl 1 rfl) ?_
  refine lv_iload_n hx hb dL_swing_4 rfl (lv_at hl 2 rfl) ?_
  have hPc := hP.sub (ws' := [(x, .inr (2, [.ref rg, .ref tr, .ref pn, .int (nI d), .int (nI r), .int ld, .int li, .int tl, .int mo])), (rg, .inr (1, [.ref ro, .ref rl, .int pl])), (ro, .inl (cI, 4, .inl fo)), (rl, .inl (cI, 28, .inl (sh fl)))]) [0, 1, 2, 3] rfl
  have hDc : va_D (fun q : Nat => L0 ≤ q) [(x, .inr (2, [.ref rg, .ref tr, .ref pn, .int (nI d), .int (nI r), .int ld, .int li, .int tl, .int mo])), (rg, .inr (1, [.ref ro, .ref rl, .int pl])), (ro, .inl (cI, 4, .inl fo)), (rl, .inl (cI, 28, .inl (sh fl)))] := (hD.sub (ws' := [(x, .inr (2, [.ref rg, .ref tr, .ref pn, .int (nI d), .int (nI r), .int ld, .int li, .int tl, .int mo])), (rg, .inr (1, [.ref ro, .ref rl, .int pl])), (ro, .inl (cI, 4, .inl fo)), (rl, .inl (cI, 28, .inl (sh fl)))]) [0, 1, 2, 3] (by decide) rfl).weaken (fun _ z9 _ h9 => hAL _ h9)
  have hKc := hK.sub (tys' := [(cI, .int)]) [0] rfl
  refine c_callX (vx_runV (As := [.int v, .int u]) (rest := [.int 0, .ref qo]) ⟨hx, hb, hml, hown, hts⟩ (k_swing l hfl D L0 cI x rg tr pn ro rl d r ld li tl mo pl fo fl v u hd hr) (cwV 2 hts gL_swing_X2_swing rfl rfl rfl (by decide +kernel) ⟨Nat.le_of_ble_eq_true rfl, Nat.le_of_ble_eq_true rfl⟩) ⟨cP_blind, va_recv hKc hPc (ci := 2) (q0 := 0) rfl rfl, cP_of hPc hKc hDc (kE_at hE0 hAL hS)⟩ rfl rfl hl.1 rfl (lv_room (Nat.le_of_ble_eq_true rfl)) dL_swing_5 ⟨Nat.le_of_ble_eq_true rfl, Nat.le_of_ble_eq_true rfl⟩) hS (fun z9 _ ⟨k9, e9, h9⟩ => (hD.sub (ws' := [(x, .inr (2, [.ref rg, .ref tr, .ref pn, .int (nI d), .int (nI r), .int ld, .int li, .int tl, .int mo])), (rg, .inr (1, [.ref ro, .ref rl, .int pl])), (ro, .inl (cI, 4, .inl fo)), (rl, .inl (cI, 28, .inl (sh fl)))]) [0, 1, 2, 3] (by decide) rfl).2 k9 (z9, e9) h9) (fun z9 ⟨k9, e9, h9⟩ => (hD.sub (ws' := [(x, .inr (2, [.ref rg, .ref tr, .ref pn, .int (nI d), .int (nI r), .int ld, .int li, .int tl, .int mo])), (rg, .inr (1, [.ref ro, .ref rl, .int pl])), (ro, .inl (cI, 4, .inl fo)), (rl, .inl (cI, 28, .inl (sh fl)))]) [0, 1, 2, 3] (by decide) rfl).2 k9 (z9, e9) h9) (fun z9 _ ⟨k9, e9, h9⟩ => (hD.sub (ws' := [(x, .inr (2, [.ref rg, .ref tr, .ref pn, .int (nI d), .int (nI r), .int ld, .int li, .int tl, .int mo])), (rg, .inr (1, [.ref ro, .ref rl, .int pl])), (ro, .inl (cI, 4, .inl fo)), (rl, .inl (cI, 28, .inl (sh fl)))]) [0, 1, 2, 3] (by decide) rfl).2 k9 (z9, e9) h9) (fun E ce q9 H1 locs hE hB hz1 hk1 hS hce hcv hcl => ?_) (fun H1 locs hB hz1 hk1 hS => ?_)
  · obtain ⟨hP, hD⟩ := c_join (ws' := [(x, .inr (2, [.ref rg, .ref tr, .ref pn, .int (nI d), .int (nI r), .int ld, .int li, .int tl, .int mo])), (rg, .inr (1, [.ref ro, .ref rl, .int pl])), (ro, .inl (cI, 4, .inl fo)), (rl, .inl (cI, 28, .inl (sh fl))), (qo, .inl (cJ, 1, .inr (.inl g0)))]) (wr := [(qo, .inl (cJ, 1, .inr (.inl g0)))]) (w1 := [(x, .inr (2, [.ref rg, .ref tr, .ref pn, .int (nI d), .int (nI r), .int ld, .int li, .int tl, .int mo])), (rg, .inr (1, [.ref ro, .ref rl, .int pl])), (ro, .inl (cI, 4, .inl fo)), (rl, .inl (cI, 28, .inl (sh fl)))]) hP hD [0, 1, 2, 3] [4] [1, 2, 3, 4, 0] rfl rfl (by decide) (by decide) hk1 hB rfl rfl rfl (by decide)
    generalize H1 = H at hP hS hce ⊢
    rcases hE with ⟨rfl, hk⟩
    · have hkn : ¬ k1 (inR v 1 8) = 0 := by rw [hk]; decide
      refine c_catch (L0 := L0) hown hE0 (Or.inl rfl) [] ⟨0, 10, 13, 13⟩ [] (htb.trans rfl) (fun z9 h9 => absurd h9 List.not_mem_nil) (by decide) (by decide) (hts (.classLink RL 13 xIAE) (by decide +kernel)) hce hcv hcl ?_
      show W _ _ _ _ _ _ _ _ _ _ _ _ _ _ _ (F0 m 13 ls [.ref q9])
      refine lv_astore (lv' := [(4, .ref q9), (0, .ref x), (1, .int v), (2, .int u), (3, .ref qo)]) hx hb dL_swing_13 hl (by decide) rfl (fun ls hl => ?_)
      refine lv_iconst (v := 1) hx hb dL_swing_15 (by decide) ?_
      refine W.widen (k := 1) (n := 6) (Nat.le_of_ble_eq_true rfl) (Nat.le_of_ble_eq_true rfl) ?_
      exact W.iret (v := 1) hx hb hRt (fun t ht hW => ⟨⟨by rw [hk], by rw [ht]; simp only [if_neg hkn]; exact ⟨g0, (fun h => absurd h hkn), hP⟩⟩, hS.F ht⟩) hS.2.2 dL_swing_16
  · obtain ⟨hk0, hB⟩ := hB
    obtain ⟨hP, hD⟩ := c_join (ws' := [(x, .inr (2, [.ref rg, .ref tr, .ref pn, .int (nI (swN (fun k => safS fo fl pl ld k r) (decide (¬ u = 0)) v.toNatClampNeg d).2), .int (nI r), .int ld, .int li, .int tl, .int (if 0 < ld then mo + nI (swN (fun k => safS fo fl pl ld k r) (decide (¬ u = 0)) v.toNatClampNeg d).1 else mo)])), (rg, .inr (1, [.ref ro, .ref rl, .int pl])), (ro, .inl (cI, 4, .inl fo)), (rl, .inl (cI, 28, .inl (sh fl))), (qo, .inl (cJ, 1, .inr (.inl g0)))]) (wr := [(qo, .inl (cJ, 1, .inr (.inl g0)))]) (w1 := [(x, .inr (2, [.ref rg, .ref tr, .ref pn, .int (nI (swN (fun k => safS fo fl pl ld k r) (decide (¬ u = 0)) v.toNatClampNeg d).2), .int (nI r), .int ld, .int li, .int tl, .int (if 0 < ld then mo + nI (swN (fun k => safS fo fl pl ld k r) (decide (¬ u = 0)) v.toNatClampNeg d).1 else mo)])), (rg, .inr (1, [.ref ro, .ref rl, .int pl])), (ro, .inl (cI, 4, .inl fo)), (rl, .inl (cI, 28, .inl (sh fl)))]) hP hD [0, 1, 2, 3] [4] [1, 2, 3, 4, 0] rfl rfl (by decide) (by decide) hk1 hB rfl rfl rfl (by decide)
    generalize H1 = H at hP hS ⊢
    show W _ _ _ _ _ _ _ _ _ _ _ _ _ _ _ (F0 m 8 ls [.int (nI (swN (fun k => safS fo fl pl ld k r) (decide (¬ u = 0)) v.toNatClampNeg d).1), .int 0, .ref qo])
    refine lv_i2l hx hb dL_swing_8 rfl ?_
    refine va_last hx hb hK hP hD hS 4 1 rfl rfl (vp_in_nI (n := 0) (by decide) (by decide)) dL_swing_9 (fun H locs hP hD hS => ?_)
    have hP : va_P D vwCl [(x, .inr (2, [.ref rg, .ref tr, .ref pn, .int (nI (swN (fun k => safS fo fl pl ld k r) (decide (¬ u = 0)) v.toNatClampNeg d).2), .int (nI r), .int ld, .int li, .int tl, .int (if 0 < ld then mo + nI (swN (fun k => safS fo fl pl ld k r) (decide (¬ u = 0)) v.toNatClampNeg d).1 else mo)])), (rg, .inr (1, [.ref ro, .ref rl, .int pl])), (ro, .inl (cI, 4, .inl fo)), (rl, .inl (cI, 28, .inl (sh fl))), (qo, .inl (cJ, 1, .inr (.inl (vp_updL g0 0 ((nI (swN (fun k => safS fo fl pl ld k r) (decide (¬ u = 0)) v.toNatClampNeg d).1).toInt64)))))] H := hP
    have hD : va_D A [(x, .inr (2, [.ref rg, .ref tr, .ref pn, .int (nI (swN (fun k => safS fo fl pl ld k r) (decide (¬ u = 0)) v.toNatClampNeg d).2), .int (nI r), .int ld, .int li, .int tl, .int (if 0 < ld then mo + nI (swN (fun k => safS fo fl pl ld k r) (decide (¬ u = 0)) v.toNatClampNeg d).1 else mo)])), (rg, .inr (1, [.ref ro, .ref rl, .int pl])), (ro, .inl (cI, 4, .inl fo)), (rl, .inl (cI, 28, .inl (sh fl))), (qo, .inl (cJ, 1, .inr (.inl (vp_updL g0 0 ((nI (swN (fun k => safS fo fl pl ld k r) (decide (¬ u = 0)) v.toNatClampNeg d).1).toInt64)))))] := hD
    refine lv_goto (tgt := 17) hx hb dL_swing_10 (by decide) ?_
    refine lv_iconst (v := 0) hx hb dL_swing_17 (by decide) ?_
    refine W.widen (k := 1) (n := 6) (Nat.le_of_ble_eq_true rfl) (Nat.le_of_ble_eq_true rfl) ?_
    exact W.iret (v := 0) hx hb hRt (fun t ht hW => ⟨⟨by rw [hk0], by rw [ht]; simp only [if_pos hk0]; exact ⟨vp_updL g0 0 ((nI (swN (fun k => safS fo fl pl ld k r) (decide (¬ u = 0)) v.toNatClampNeg d).1).toInt64), (fun _ => pk_uLs), hP⟩⟩, hS.F ht⟩) hS.2.2 dL_swing_18
set_option maxHeartbeats 4000000 in
set_option maxRecDepth 100000 in
/-- the law of stretch -/
theorem w_stretch (l : Launch) (hfl : l.stackTraces = false) (D : va_G) (L0 : Nat) (cI cJ : ClassId) (x rg tr pn ro rl d r : Nat) (ld li tl mo pl : Int32) (fo fl : Nat → Int32) (qo : Nat) (g0 : Nat → Int64) (v : Int32) (u : Int32) (hd : d < 8) (hr : 3 ≤ r ∧ r ≤ 30) : Met l yL_stretch wsL_stretch ({ frames := 7, cells := 1, slots := 6, locals := 110 }) (cP L0 D [(cI, .int), (cJ, .long)] [(x, .inr (2, [.ref rg, .ref tr, .ref pn, .int (nI d), .int (nI r), .int ld, .int li, .int tl, .int mo])), (rg, .inr (1, [.ref ro, .ref rl, .int pl])), (ro, .inl (cI, 4, .inl fo)), (rl, .inl (cI, 28, .inl (sh fl))), (qo, .inl (cJ, 1, .inr (.inl g0)))] [.ref x, .int v, .int u, .ref qo]) (cB (some (.int (k1 (inR v 1 30)))) (fun H => ∃ g9 : Nat → Int64, (k1 (inR v 1 30) = 0 → g9 0 = (nI (stN (fun k => safS fo fl pl ld d k) (decide (¬ u = 0)) v.toNatClampNeg r).1).toInt64) ∧ va_P D vwCl [(x, .inr (2, [.ref rg, .ref tr, .ref pn, .int (nI d), .int (nI (if k1 (inR v 1 30) = 0 then (stN (fun k => safS fo fl pl ld d k) (decide (¬ u = 0)) v.toNatClampNeg r).2 else r)), .int ld, .int li, .int tl, .int (if k1 (inR v 1 30) = 0 then (if 0 < ld then mo + nI (stN (fun k => safS fo fl pl ld d k) (decide (¬ u = 0)) v.toNatClampNeg r).1 else mo) else mo)])), (rg, .inr (1, [.ref ro, .ref rl, .int pl])), (ro, .inl (cI, 4, .inl fo)), (rl, .inl (cI, 28, .inl (sh fl))), (qo, .inl (cJ, 1, .inr (.inl g9)))] H) (cA [(x, .inr (2, [.ref rg, .ref tr, .ref pn, .int (nI d), .int (nI r), .int ld, .int li, .int tl, .int mo])), (rg, .inr (1, [.ref ro, .ref rl, .int pl])), (ro, .inl (cI, 4, .inl fo)), (rl, .inl (cI, 28, .inl (sh fl))), (qo, .inl (cJ, 1, .inr (.inl g0)))])) 1 6 (cA [(x, .inr (2, [.ref rg, .ref tr, .ref pn, .int (nI d), .int (nI r), .int ld, .int li, .int tl, .int mo])), (rg, .inr (1, [.ref ro, .ref rl, .int pl])), (ro, .inl (cI, 4, .inl fo)), (rl, .inl (cI, 28, .inl (sh fl))), (qo, .inl (cJ, 1, .inr (.inl g0)))]) := by
  refine c_ofWH (cc := cL_stretch) (maxL := 5) (ret := (some .int)) (by decide) rfl ?_
  intro p e s m args below meth c s₁ B hml hv
  obtain ⟨rfl, hP, hK, hD0, hE0⟩ := hv
  have hx := B.exec
  have hb := B.bytes
  have hRt := B.returns
  have hts := atoms_spec (ws := wsL_stretch) B.pre
  have hown : s.vm.findClass RL = some m.cls := findClass_of_methodNamed B.named
  have hlocks := B.notSynchronized
  have hAL : ∀ z9 : Nat, cA [(x, .inr (2, [.ref rg, .ref tr, .ref pn, .int (nI d), .int (nI r), .int ld, .int li, .int tl, .int mo])), (rg, .inr (1, [.ref ro, .ref rl, .int pl])), (ro, .inl (cI, 4, .inl fo)), (rl, .inl (cI, 28, .inl (sh fl))), (qo, .inl (cJ, 1, .inr (.inl g0)))] z9 → L0 ≤ z9 := fun z9 ⟨k9, e9, h9⟩ => hD0.2 k9 (z9, e9) h9
  have hD : va_D (cA [(x, .inr (2, [.ref rg, .ref tr, .ref pn, .int (nI d), .int (nI r), .int ld, .int li, .int tl, .int mo])), (rg, .inr (1, [.ref ro, .ref rl, .int pl])), (ro, .inl (cI, 4, .inl fo)), (rl, .inl (cI, 28, .inl (sh fl))), (qo, .inl (cJ, 1, .inr (.inl g0)))]) [(x, .inr (2, [.ref rg, .ref tr, .ref pn, .int (nI d), .int (nI r), .int ld, .int li, .int tl, .int mo])), (rg, .inr (1, [.ref ro, .ref rl, .int pl])), (ro, .inl (cI, 4, .inl fo)), (rl, .inl (cI, 28, .inl (sh fl))), (qo, .inl (cJ, 1, .inr (.inl g0)))] := ⟨hD0.1, fun k9 z9 h9 => cA_of h9⟩
  generalize hAe : cA [(x, .inr (2, [.ref rg, .ref tr, .ref pn, .int (nI d), .int (nI r), .int ld, .int li, .int tl, .int mo])), (rg, .inr (1, [.ref ro, .ref rl, .int pl])), (ro, .inl (cI, 4, .inl fo)), (rl, .inl (cI, 28, .inl (sh fl))), (qo, .inl (cJ, 1, .inr (.inl g0)))] = A at hD hAL ⊢
  have hS : va_S A s.heap s.heap [] := va_S.rf
  have hl := lv_entry ([.ref x, .int v, .int u, .ref qo]) (n := 5) (Nat.le_of_ble_eq_true rfl)
  rw [lg_entry_eq]
  generalize (lg_sl ([.ref x, .int v, .int u, .ref qo]) ++ List.replicate (5 - (lg_sl ([.ref x, .int v, .int u, .ref qo])).length) Slot.unset).toArray = ls at hl ⊢
  have hl : lv_has ls 5 [(0, .ref x), (1, .int v), (2, .int u), (3, .ref qo)] := hl
  have htb := vx_table (x := yL_stretch) B (hts (.codeWith yL_stretch cL_stretch 5 (some .int) [(0, 10, 13, 13)]) (by decide +kernel))
  refine lv_aload_n hx hb dL_stretch_0 rfl (lv_at hl 3 rfl) ?_
  refine lv_iconst (v := 0) hx hb dL_stretch_1 (by decide) ?_
  refine lv_aload_n hx hb dL_stretch_2 rfl (lv_at hl 0 rfl) ?_
  refine lv_iload_n hx hb dL_stretch_3 rfl (lv_at hl 1 rfl) ?_
  refine lv_iload_n hx hb dL_stretch_4 rfl (lv_at hl 2 rfl) ?_
  have hPc := hP.sub (ws' := [(x, .inr (2, [.ref rg, .ref tr, .ref pn, .int (nI d), .int (nI r), .int ld, .int li, .int tl, .int mo])), (rg, .inr (1, [.ref ro, .ref rl, .int pl])), (ro, .inl (cI, 4, .inl fo)), (rl, .inl (cI, 28, .inl (sh fl)))]) [0, 1, 2, 3] rfl
  have hDc : va_D (fun q : Nat => L0 ≤ q) [(x, .inr (2, [.ref rg, .ref tr, .ref pn, .int (nI d), .int (nI r), .int ld, .int li, .int tl, .int mo])), (rg, .inr (1, [.ref ro, .ref rl, .int pl])), (ro, .inl (cI, 4, .inl fo)), (rl, .inl (cI, 28, .inl (sh fl)))] := (hD.sub (ws' := [(x, .inr (2, [.ref rg, .ref tr, .ref pn, .int (nI d), .int (nI r), .int ld, .int li, .int tl, .int mo])), (rg, .inr (1, [.ref ro, .ref rl, .int pl])), (ro, .inl (cI, 4, .inl fo)), (rl, .inl (cI, 28, .inl (sh fl)))]) [0, 1, 2, 3] (by decide) rfl).weaken (fun _ z9 _ h9 => hAL _ h9)
  have hKc := hK.sub (tys' := [(cI, .int)]) [0] rfl
  refine c_callX (vx_runV (As := [.int v, .int u]) (rest := [.int 0, .ref qo]) ⟨hx, hb, hml, hown, hts⟩ (k_stretch l hfl D L0 cI x rg tr pn ro rl d r ld li tl mo pl fo fl v u hd hr) (cwV 2 hts gL_stretch_X2_stretch rfl rfl rfl (by decide +kernel) ⟨Nat.le_of_ble_eq_true rfl, Nat.le_of_ble_eq_true rfl⟩) ⟨cP_blind, va_recv hKc hPc (ci := 2) (q0 := 0) rfl rfl, cP_of hPc hKc hDc (kE_at hE0 hAL hS)⟩ rfl rfl hl.1 rfl (lv_room (Nat.le_of_ble_eq_true rfl)) dL_stretch_5 ⟨Nat.le_of_ble_eq_true rfl, Nat.le_of_ble_eq_true rfl⟩) hS (fun z9 _ ⟨k9, e9, h9⟩ => (hD.sub (ws' := [(x, .inr (2, [.ref rg, .ref tr, .ref pn, .int (nI d), .int (nI r), .int ld, .int li, .int tl, .int mo])), (rg, .inr (1, [.ref ro, .ref rl, .int pl])), (ro, .inl (cI, 4, .inl fo)), (rl, .inl (cI, 28, .inl (sh fl)))]) [0, 1, 2, 3] (by decide) rfl).2 k9 (z9, e9) h9) (fun z9 ⟨k9, e9, h9⟩ => (hD.sub (ws' := [(x, .inr (2, [.ref rg, .ref tr, .ref pn, .int (nI d), .int (nI r), .int ld, .int li, .int tl, .int mo])), (rg, .inr (1, [.ref ro, .ref rl, .int pl])), (ro, .inl (cI, 4, .inl fo)), (rl, .inl (cI, 28, .inl (sh fl)))]) [0, 1, 2, 3] (by decide) rfl).2 k9 (z9, e9) h9) (fun z9 _ ⟨k9, e9, h9⟩ => (hD.sub (ws' := [(x, .inr (2, [.ref rg, .ref tr, .ref pn, .int (nI d), .int (nI r), .int ld, .int li, .int tl, .int mo])), (rg, .inr (1, [.ref ro, .ref rl, .int pl])), (ro, .inl (cI, 4, .inl fo)), (rl, .inl (cI, 28, .inl (sh fl)))]) [0, 1, 2, 3] (by decide) rfl).2 k9 (z9, e9) h9) (fun E ce q9 H1 locs hE hB hz1 hk1 hS hce hcv hcl => ?_) (fun H1 locs hB hz1 hk1 hS => ?_)
  · obtain ⟨hP, hD⟩ := c_join (ws' := [(x, .inr (2, [.ref rg, .ref tr, .ref pn, .int (nI d), .int (nI r), .int ld, .int li, .int tl, .int mo])), (rg, .inr (1, [.ref ro, .ref rl, .int pl])), (ro, .inl (cI, 4, .inl fo)), (rl, .inl (cI, 28, .inl (sh fl))), (qo, .inl (cJ, 1, .inr (.inl g0)))]) (wr := [(qo, .inl (cJ, 1, .inr (.inl g0)))]) (w1 := [(x, .inr (2, [.ref rg, .ref tr, .ref pn, .int (nI d), .int (nI r), .int ld, .int li, .int tl, .int mo])), (rg, .inr (1, [.ref ro, .ref rl, .int pl])), (ro, .inl (cI, 4, .inl fo)), (rl, .inl (cI, 28, .inl (sh fl)))]) hP hD [0, 1, 2, 3] [4] [1, 2, 3, 4, 0] rfl rfl (by decide) (by decide) hk1 hB rfl rfl rfl (by decide)
    generalize H1 = H at hP hS hce ⊢
    rcases hE with ⟨rfl, hk⟩
    · have hkn : ¬ k1 (inR v 1 30) = 0 := by rw [hk]; decide
      refine c_catch (L0 := L0) hown hE0 (Or.inl rfl) [] ⟨0, 10, 13, 13⟩ [] (htb.trans rfl) (fun z9 h9 => absurd h9 List.not_mem_nil) (by decide) (by decide) (hts (.classLink RL 13 xIAE) (by decide +kernel)) hce hcv hcl ?_
      show W _ _ _ _ _ _ _ _ _ _ _ _ _ _ _ (F0 m 13 ls [.ref q9])
      refine lv_astore (lv' := [(4, .ref q9), (0, .ref x), (1, .int v), (2, .int u), (3, .ref qo)]) hx hb dL_stretch_13 hl (by decide) rfl (fun ls hl => ?_)
      refine lv_iconst (v := 1) hx hb dL_stretch_15 (by decide) ?_
      refine W.widen (k := 1) (n := 6) (Nat.le_of_ble_eq_true rfl) (Nat.le_of_ble_eq_true rfl) ?_
      exact W.iret (v := 1) hx hb hRt (fun t ht hW => ⟨⟨by rw [hk], by rw [ht]; simp only [if_neg hkn]; exact ⟨g0, (fun h => absurd h hkn), hP⟩⟩, hS.F ht⟩) hS.2.2 dL_stretch_16
  · obtain ⟨hk0, hB⟩ := hB
    obtain ⟨hP, hD⟩ := c_join (ws' := [(x, .inr (2, [.ref rg, .ref tr, .ref pn, .int (nI d), .int (nI (stN (fun k => safS fo fl pl ld d k) (decide (¬ u = 0)) v.toNatClampNeg r).2), .int ld, .int li, .int tl, .int (if 0 < ld then mo + nI (stN (fun k => safS fo fl pl ld d k) (decide (¬ u = 0)) v.toNatClampNeg r).1 else mo)])), (rg, .inr (1, [.ref ro, .ref rl, .int pl])), (ro, .inl (cI, 4, .inl fo)), (rl, .inl (cI, 28, .inl (sh fl))), (qo, .inl (cJ, 1, .inr (.inl g0)))]) (wr := [(qo, .inl (cJ, 1, .inr (.inl g0)))]) (w1 := [(x, .inr (2, [.ref rg, .ref tr, .ref pn, .int (nI d), .int (nI (stN (fun k => safS fo fl pl ld d k) (decide (¬ u = 0)) v.toNatClampNeg r).2), .int ld, .int li, .int tl, .int (if 0 < ld then mo + nI (stN (fun k => safS fo fl pl ld d k) (decide (¬ u = 0)) v.toNatClampNeg r).1 else mo)])), (rg, .inr (1, [.ref ro, .ref rl, .int pl])), (ro, .inl (cI, 4, .inl fo)), (rl, .inl (cI, 28, .inl (sh fl)))]) hP hD [0, 1, 2, 3] [4] [1, 2, 3, 4, 0] rfl rfl (by decide) (by decide) hk1 hB rfl rfl rfl (by decide)
    generalize H1 = H at hP hS ⊢
    show W _ _ _ _ _ _ _ _ _ _ _ _ _ _ _ (F0 m 8 ls [.int (nI (stN (fun k => safS fo fl pl ld d k) (decide (¬ u = 0)) v.toNatClampNeg r).1), .int 0, .ref qo])
    refine lv_i2l hx hb dL_stretch_8 rfl ?_
    refine va_last hx hb hK hP hD hS 4 1 rfl rfl (vp_in_nI (n := 0) (by decide) (by decide)) dL_stretch_9 (fun H locs hP hD hS => ?_)
    have hP : va_P D vwCl [(x, .inr (2, [.ref rg, .ref tr, .ref pn, .int (nI d), .int (nI (stN (fun k => safS fo fl pl ld d k) (decide (¬ u = 0)) v.toNatClampNeg r).2), .int ld, .int li, .int tl, .int (if 0 < ld then mo + nI (stN (fun k => safS fo fl pl ld d k) (decide (¬ u = 0)) v.toNatClampNeg r).1 else mo)])), (rg, .inr (1, [.ref ro, .ref rl, .int pl])), (ro, .inl (cI, 4, .inl fo)), (rl, .inl (cI, 28, .inl (sh fl))), (qo, .inl (cJ, 1, .inr (.inl (vp_updL g0 0 ((nI (stN (fun k => safS fo fl pl ld d k) (decide (¬ u = 0)) v.toNatClampNeg r).1).toInt64)))))] H := hP
    have hD : va_D A [(x, .inr (2, [.ref rg, .ref tr, .ref pn, .int (nI d), .int (nI (stN (fun k => safS fo fl pl ld d k) (decide (¬ u = 0)) v.toNatClampNeg r).2), .int ld, .int li, .int tl, .int (if 0 < ld then mo + nI (stN (fun k => safS fo fl pl ld d k) (decide (¬ u = 0)) v.toNatClampNeg r).1 else mo)])), (rg, .inr (1, [.ref ro, .ref rl, .int pl])), (ro, .inl (cI, 4, .inl fo)), (rl, .inl (cI, 28, .inl (sh fl))), (qo, .inl (cJ, 1, .inr (.inl (vp_updL g0 0 ((nI (stN (fun k => safS fo fl pl ld d k) (decide (¬ u = 0)) v.toNatClampNeg r).1).toInt64)))))] := hD
    refine lv_goto (tgt := 17) hx hb dL_stretch_10 (by decide) ?_
    refine lv_iconst (v := 0) hx hb dL_stretch_17 (by decide) ?_
    refine W.widen (k := 1) (n := 6) (Nat.le_of_ble_eq_true rfl) (Nat.le_of_ble_eq_true rfl) ?_
    exact W.iret (v := 0) hx hb hRt (fun t ht hW => ⟨⟨by rw [hk0], by rw [ht]; simp only [if_pos hk0]; exact ⟨vp_updL g0 0 ((nI (stN (fun k => safS fo fl pl ld d k) (decide (¬ u = 0)) v.toNatClampNeg r).1).toInt64), (fun _ => pk_uLs), hP⟩⟩, hS.F ht⟩) hS.2.2 dL_stretch_18
set_option maxHeartbeats 4000000 in
set_option maxRecDepth 100000 in
/-- the law of outrigger -/
theorem w_outrigger (l : Launch) (hfl : l.stackTraces = false) (D : va_G) (L0 : Nat) (cI cJ : ClassId) (x rg tr pn ro rl d r : Nat) (ld li tl mo pl : Int32) (fo fl : Nat → Int32) (qo : Nat) (g0 : Nat → Int64) (v : Int32) (hd : d < 8) (hr : 3 ≤ r ∧ r ≤ 30) : Met l yL_outrigger wsL_outrigger ({ frames := 8, cells := 1, slots := 6, locals := 124 }) (cP L0 D [(cI, .int), (cJ, .long)] [(x, .inr (2, [.ref rg, .ref tr, .ref pn, .int (nI d), .int (nI r), .int ld, .int li, .int tl, .int mo])), (rg, .inr (1, [.ref ro, .ref rl, .int pl])), (ro, .inl (cI, 4, .inl fo)), (rl, .inl (cI, 28, .inl (sh fl))), (qo, .inl (cJ, 1, .inr (.inl g0)))] [.ref x, .int v, .ref qo]) (cB (some (.int (k1 (inR v 0 3)))) (fun H => ∃ g9 : Nat → Int64, (k1 (inR v 0 3) = 0 → g9 0 = (fo v.toNatClampNeg).toInt64) ∧ va_P D vwCl [(x, .inr (2, [.ref rg, .ref tr, .ref pn, .int (nI d), .int (nI r), .int ld, .int li, .int tl, .int mo])), (rg, .inr (1, [.ref ro, .ref rl, .int pl])), (ro, .inl (cI, 4, .inl fo)), (rl, .inl (cI, 28, .inl (sh fl))), (qo, .inl (cJ, 1, .inr (.inl g9)))] H) (cA [(x, .inr (2, [.ref rg, .ref tr, .ref pn, .int (nI d), .int (nI r), .int ld, .int li, .int tl, .int mo])), (rg, .inr (1, [.ref ro, .ref rl, .int pl])), (ro, .inl (cI, 4, .inl fo)), (rl, .inl (cI, 28, .inl (sh fl))), (qo, .inl (cJ, 1, .inr (.inl g0)))])) 1 6 (cA [(x, .inr (2, [.ref rg, .ref tr, .ref pn, .int (nI d), .int (nI r), .int ld, .int li, .int tl, .int mo])), (rg, .inr (1, [.ref ro, .ref rl, .int pl])), (ro, .inl (cI, 4, .inl fo)), (rl, .inl (cI, 28, .inl (sh fl))), (qo, .inl (cJ, 1, .inr (.inl g0)))]) := by
  refine c_ofWH (cc := cL_outrigger) (maxL := 4) (ret := (some .int)) (by decide) rfl ?_
  intro p e s m args below meth c s₁ B hml hv
  obtain ⟨rfl, hP, hK, hD0, hE0⟩ := hv
  have hx := B.exec
  have hb := B.bytes
  have hRt := B.returns
  have hts := atoms_spec (ws := wsL_outrigger) B.pre
  have hown : s.vm.findClass RL = some m.cls := findClass_of_methodNamed B.named
  have hlocks := B.notSynchronized
  have hAL : ∀ z9 : Nat, cA [(x, .inr (2, [.ref rg, .ref tr, .ref pn, .int (nI d), .int (nI r), .int ld, .int li, .int tl, .int mo])), (rg, .inr (1, [.ref ro, .ref rl, .int pl])), (ro, .inl (cI, 4, .inl fo)), (rl, .inl (cI, 28, .inl (sh fl))), (qo, .inl (cJ, 1, .inr (.inl g0)))] z9 → L0 ≤ z9 := fun z9 ⟨k9, e9, h9⟩ => hD0.2 k9 (z9, e9) h9
  have hD : va_D (cA [(x, .inr (2, [.ref rg, .ref tr, .ref pn, .int (nI d), .int (nI r), .int ld, .int li, .int tl, .int mo])), (rg, .inr (1, [.ref ro, .ref rl, .int pl])), (ro, .inl (cI, 4, .inl fo)), (rl, .inl (cI, 28, .inl (sh fl))), (qo, .inl (cJ, 1, .inr (.inl g0)))]) [(x, .inr (2, [.ref rg, .ref tr, .ref pn, .int (nI d), .int (nI r), .int ld, .int li, .int tl, .int mo])), (rg, .inr (1, [.ref ro, .ref rl, .int pl])), (ro, .inl (cI, 4, .inl fo)), (rl, .inl (cI, 28, .inl (sh fl))), (qo, .inl (cJ, 1, .inr (.inl g0)))] := ⟨hD0.1, fun k9 z9 h9 => cA_of h9⟩
  generalize hAe : cA [(x, .inr (2, [.ref rg, .ref tr, .ref pn, .int (nI d), .int (nI r), .int ld, .int li, .int tl, .int mo])), (rg, .inr (1, [.ref ro, .ref rl, .int pl])), (ro, .inl (cI, 4, .inl fo)), (rl, .inl (cI, 28, .inl (sh fl))), (qo, .inl (cJ, 1, .inr (.inl g0)))] = A at hD hAL ⊢
  have hS : va_S A s.heap s.heap [] := va_S.rf
  have hl := lv_entry ([.ref x, .int v, .ref qo]) (n := 4) (Nat.le_of_ble_eq_true rfl)
  rw [lg_entry_eq]
  generalize (lg_sl ([.ref x, .int v, .ref qo]) ++ List.replicate (4 - (lg_sl ([.ref x, .int v, .ref qo])).length) Slot.unset).toArray = ls at hl ⊢
  have hl : lv_has ls 4 [(0, .ref x), (1, .int v), (2, .ref qo)] := hl
  have htb := vx_table (x := yL_outrigger) B (hts (.codeWith yL_outrigger cL_outrigger 4 (some .int) [(0, 9, 12, 21)]) (by decide +kernel))
  refine lv_aload_n hx hb dL_outrigger_0 rfl (lv_at hl 2 rfl) ?_
  refine lv_iconst (v := 0) hx hb dL_outrigger_1 (by decide) ?_
  refine lv_aload_n hx hb dL_outrigger_2 rfl (lv_at hl 0 rfl) ?_
  refine lv_iload_n hx hb dL_outrigger_3 rfl (lv_at hl 1 rfl) ?_
  have hPc := hP.sub (ws' := [(x, .inr (2, [.ref rg, .ref tr, .ref pn, .int (nI d), .int (nI r), .int ld, .int li, .int tl, .int mo])), (rg, .inr (1, [.ref ro, .ref rl, .int pl])), (ro, .inl (cI, 4, .inl fo)), (rl, .inl (cI, 28, .inl (sh fl)))]) [0, 1, 2, 3] rfl
  have hDc : va_D (fun q : Nat => L0 ≤ q) [(x, .inr (2, [.ref rg, .ref tr, .ref pn, .int (nI d), .int (nI r), .int ld, .int li, .int tl, .int mo])), (rg, .inr (1, [.ref ro, .ref rl, .int pl])), (ro, .inl (cI, 4, .inl fo)), (rl, .inl (cI, 28, .inl (sh fl)))] := (hD.sub (ws' := [(x, .inr (2, [.ref rg, .ref tr, .ref pn, .int (nI d), .int (nI r), .int ld, .int li, .int tl, .int mo])), (rg, .inr (1, [.ref ro, .ref rl, .int pl])), (ro, .inl (cI, 4, .inl fo)), (rl, .inl (cI, 28, .inl (sh fl)))]) [0, 1, 2, 3] (by decide) rfl).weaken (fun _ z9 _ h9 => hAL _ h9)
  have hKc := hK.sub (tys' := [(cI, .int)]) [0] rfl
  refine c_callT (vx_runV (As := [.int v]) (rest := [.int 0, .ref qo]) ⟨hx, hb, hml, hown, hts⟩ (k_outrigger l hfl D L0 cI x rg tr pn ro rl d r ld li tl mo pl fo fl v hd hr) (cwV 1 hts gL_outrigger_X2_outrigger rfl rfl rfl (by decide +kernel) ⟨Nat.le_of_ble_eq_true rfl, Nat.le_of_ble_eq_true rfl⟩) ⟨cP_blind, va_recv hKc hPc (ci := 2) (q0 := 0) rfl rfl, cP_of hPc hKc hDc (kE_at hE0 hAL hS)⟩ rfl rfl hl.1 rfl (lv_room (Nat.le_of_ble_eq_true rfl)) dL_outrigger_4 ⟨Nat.le_of_ble_eq_true rfl, Nat.le_of_ble_eq_true rfl⟩) hS (fun E ce q9 H1 hE hz1 hk1 hS hce hcv hcl => ?_) (fun hk0 => ?_)
  · have hP := c_PX hP hk1
    rcases hE with ⟨rfl, hk⟩
    · have hkn : ¬ k1 (inR v 0 3) = 0 := by rw [hk]; decide
      refine c_catch (L0 := L0) hown hE0 (Or.inr (Or.inr rfl)) [] ⟨0, 9, 12, 21⟩ [] (htb.trans rfl) (fun z9 h9 => absurd h9 List.not_mem_nil) (by decide) (by decide) (hts (.classLink RL 21 xIOB) (by decide +kernel)) hce hcv hcl ?_
      show W _ _ _ _ _ _ _ _ _ _ _ _ _ _ _ (F0 m 12 ls [.ref q9])
      refine lv_astore_n (lv' := [(3, .ref q9), (0, .ref x), (1, .int v), (2, .ref qo)]) hx hb dL_outrigger_12 rfl hl (by decide) rfl (fun ls hl => ?_)
      refine lv_iconst (v := 1) hx hb dL_outrigger_13 (by decide) ?_
      refine W.widen (k := 1) (n := 6) (Nat.le_of_ble_eq_true rfl) (Nat.le_of_ble_eq_true rfl) ?_
      exact W.iret (v := 1) hx hb hRt (fun t ht hW => ⟨⟨by rw [hk], by rw [ht]; exact ⟨g0, (fun h => absurd h hkn), hP⟩⟩, hS.F ht⟩) hS.2.2 dL_outrigger_14
  · show W _ _ _ _ _ _ _ _ _ _ _ _ _ _ _ (F0 m 7 ls [.int (fo v.toNatClampNeg), .int 0, .ref qo])
    refine lv_i2l hx hb dL_outrigger_7 rfl ?_
    refine va_last hx hb hK hP hD hS 4 1 rfl rfl (vp_in_nI (n := 0) (by decide) (by decide)) dL_outrigger_8 (fun H locs hP hD hS => ?_)
    have hP : va_P D vwCl [(x, .inr (2, [.ref rg, .ref tr, .ref pn, .int (nI d), .int (nI r), .int ld, .int li, .int tl, .int mo])), (rg, .inr (1, [.ref ro, .ref rl, .int pl])), (ro, .inl (cI, 4, .inl fo)), (rl, .inl (cI, 28, .inl (sh fl))), (qo, .inl (cJ, 1, .inr (.inl (vp_updL g0 0 ((fo v.toNatClampNeg).toInt64)))))] H := hP
    have hD : va_D A [(x, .inr (2, [.ref rg, .ref tr, .ref pn, .int (nI d), .int (nI r), .int ld, .int li, .int tl, .int mo])), (rg, .inr (1, [.ref ro, .ref rl, .int pl])), (ro, .inl (cI, 4, .inl fo)), (rl, .inl (cI, 28, .inl (sh fl))), (qo, .inl (cJ, 1, .inr (.inl (vp_updL g0 0 ((fo v.toNatClampNeg).toInt64)))))] := hD
    refine lv_goto (tgt := 15) hx hb dL_outrigger_9 (by decide) ?_
    refine lv_iconst (v := 0) hx hb dL_outrigger_15 (by decide) ?_
    refine W.widen (k := 1) (n := 6) (Nat.le_of_ble_eq_true rfl) (Nat.le_of_ble_eq_true rfl) ?_
    exact W.iret (v := 0) hx hb hRt (fun t ht hW => ⟨⟨by rw [hk0], by rw [ht]; exact ⟨vp_updL g0 0 ((fo v.toNatClampNeg).toInt64), (fun _ => pk_uLs), hP⟩⟩, hS.F ht⟩) hS.2.2 dL_outrigger_16
set_option maxHeartbeats 4000000 in
set_option maxRecDepth 100000 in
/-- the law of limitAt -/
theorem w_limitAt (l : Launch) (hfl : l.stackTraces = false) (D : va_G) (L0 : Nat) (cI cJ : ClassId) (x rg tr pn ro rl d r : Nat) (ld li tl mo pl : Int32) (fo fl : Nat → Int32) (qo : Nat) (g0 : Nat → Int64) (v : Int32) (hd : d < 8) (hr : 3 ≤ r ∧ r ≤ 30) : Met l yL_limitAt wsL_limitAt ({ frames := 8, cells := 1, slots := 6, locals := 124 }) (cP L0 D [(cI, .int), (cJ, .long)] [(x, .inr (2, [.ref rg, .ref tr, .ref pn, .int (nI d), .int (nI r), .int ld, .int li, .int tl, .int mo])), (rg, .inr (1, [.ref ro, .ref rl, .int pl])), (ro, .inl (cI, 4, .inl fo)), (rl, .inl (cI, 28, .inl (sh fl))), (qo, .inl (cJ, 1, .inr (.inl g0)))] [.ref x, .int v, .ref qo]) (cB (some (.int (k1 (inR v 3 30)))) (fun H => ∃ g9 : Nat → Int64, (k1 (inR v 3 30) = 0 → g9 0 = (fl v.toNatClampNeg).toInt64) ∧ va_P D vwCl [(x, .inr (2, [.ref rg, .ref tr, .ref pn, .int (nI d), .int (nI r), .int ld, .int li, .int tl, .int mo])), (rg, .inr (1, [.ref ro, .ref rl, .int pl])), (ro, .inl (cI, 4, .inl fo)), (rl, .inl (cI, 28, .inl (sh fl))), (qo, .inl (cJ, 1, .inr (.inl g9)))] H) (cA [(x, .inr (2, [.ref rg, .ref tr, .ref pn, .int (nI d), .int (nI r), .int ld, .int li, .int tl, .int mo])), (rg, .inr (1, [.ref ro, .ref rl, .int pl])), (ro, .inl (cI, 4, .inl fo)), (rl, .inl (cI, 28, .inl (sh fl))), (qo, .inl (cJ, 1, .inr (.inl g0)))])) 1 6 (cA [(x, .inr (2, [.ref rg, .ref tr, .ref pn, .int (nI d), .int (nI r), .int ld, .int li, .int tl, .int mo])), (rg, .inr (1, [.ref ro, .ref rl, .int pl])), (ro, .inl (cI, 4, .inl fo)), (rl, .inl (cI, 28, .inl (sh fl))), (qo, .inl (cJ, 1, .inr (.inl g0)))]) := by
  refine c_ofWH (cc := cL_limitAt) (maxL := 4) (ret := (some .int)) (by decide) rfl ?_
  intro p e s m args below meth c s₁ B hml hv
  obtain ⟨rfl, hP, hK, hD0, hE0⟩ := hv
  have hx := B.exec
  have hb := B.bytes
  have hRt := B.returns
  have hts := atoms_spec (ws := wsL_limitAt) B.pre
  have hown : s.vm.findClass RL = some m.cls := findClass_of_methodNamed B.named
  have hlocks := B.notSynchronized
  have hAL : ∀ z9 : Nat, cA [(x, .inr (2, [.ref rg, .ref tr, .ref pn, .int (nI d), .int (nI r), .int ld, .int li, .int tl, .int mo])), (rg, .inr (1, [.ref ro, .ref rl, .int pl])), (ro, .inl (cI, 4, .inl fo)), (rl, .inl (cI, 28, .inl (sh fl))), (qo, .inl (cJ, 1, .inr (.inl g0)))] z9 → L0 ≤ z9 := fun z9 ⟨k9, e9, h9⟩ => hD0.2 k9 (z9, e9) h9
  have hD : va_D (cA [(x, .inr (2, [.ref rg, .ref tr, .ref pn, .int (nI d), .int (nI r), .int ld, .int li, .int tl, .int mo])), (rg, .inr (1, [.ref ro, .ref rl, .int pl])), (ro, .inl (cI, 4, .inl fo)), (rl, .inl (cI, 28, .inl (sh fl))), (qo, .inl (cJ, 1, .inr (.inl g0)))]) [(x, .inr (2, [.ref rg, .ref tr, .ref pn, .int (nI d), .int (nI r), .int ld, .int li, .int tl, .int mo])), (rg, .inr (1, [.ref ro, .ref rl, .int pl])), (ro, .inl (cI, 4, .inl fo)), (rl, .inl (cI, 28, .inl (sh fl))), (qo, .inl (cJ, 1, .inr (.inl g0)))] := ⟨hD0.1, fun k9 z9 h9 => cA_of h9⟩
  generalize hAe : cA [(x, .inr (2, [.ref rg, .ref tr, .ref pn, .int (nI d), .int (nI r), .int ld, .int li, .int tl, .int mo])), (rg, .inr (1, [.ref ro, .ref rl, .int pl])), (ro, .inl (cI, 4, .inl fo)), (rl, .inl (cI, 28, .inl (sh fl))), (qo, .inl (cJ, 1, .inr (.inl g0)))] = A at hD hAL ⊢
  have hS : va_S A s.heap s.heap [] := va_S.rf
  have hl := lv_entry ([.ref x, .int v, .ref qo]) (n := 4) (Nat.le_of_ble_eq_true rfl)
  rw [lg_entry_eq]
  generalize (lg_sl ([.ref x, .int v, .ref qo]) ++ List.replicate (4 - (lg_sl ([.ref x, .int v, .ref qo])).length) Slot.unset).toArray = ls at hl ⊢
  have hl : lv_has ls 4 [(0, .ref x), (1, .int v), (2, .ref qo)] := hl
  have htb := vx_table (x := yL_limitAt) B (hts (.codeWith yL_limitAt cL_limitAt 4 (some .int) [(0, 9, 12, 13)]) (by decide +kernel))
  refine lv_aload_n hx hb dL_limitAt_0 rfl (lv_at hl 2 rfl) ?_
  refine lv_iconst (v := 0) hx hb dL_limitAt_1 (by decide) ?_
  refine lv_aload_n hx hb dL_limitAt_2 rfl (lv_at hl 0 rfl) ?_
  refine lv_iload_n hx hb dL_limitAt_3 rfl (lv_at hl 1 rfl) ?_
  have hPc := hP.sub (ws' := [(x, .inr (2, [.ref rg, .ref tr, .ref pn, .int (nI d), .int (nI r), .int ld, .int li, .int tl, .int mo])), (rg, .inr (1, [.ref ro, .ref rl, .int pl])), (ro, .inl (cI, 4, .inl fo)), (rl, .inl (cI, 28, .inl (sh fl)))]) [0, 1, 2, 3] rfl
  have hDc : va_D (fun q : Nat => L0 ≤ q) [(x, .inr (2, [.ref rg, .ref tr, .ref pn, .int (nI d), .int (nI r), .int ld, .int li, .int tl, .int mo])), (rg, .inr (1, [.ref ro, .ref rl, .int pl])), (ro, .inl (cI, 4, .inl fo)), (rl, .inl (cI, 28, .inl (sh fl)))] := (hD.sub (ws' := [(x, .inr (2, [.ref rg, .ref tr, .ref pn, .int (nI d), .int (nI r), .int ld, .int li, .int tl, .int mo])), (rg, .inr (1, [.ref ro, .ref rl, .int pl])), (ro, .inl (cI, 4, .inl fo)), (rl, .inl (cI, 28, .inl (sh fl)))]) [0, 1, 2, 3] (by decide) rfl).weaken (fun _ z9 _ h9 => hAL _ h9)
  have hKc := hK.sub (tys' := [(cI, .int)]) [0] rfl
  refine c_callT (vx_runV (As := [.int v]) (rest := [.int 0, .ref qo]) ⟨hx, hb, hml, hown, hts⟩ (k_limitAt l hfl D L0 cI x rg tr pn ro rl d r ld li tl mo pl fo fl v hd hr) (cwV 1 hts gL_limitAt_X2_limitAt rfl rfl rfl (by decide +kernel) ⟨Nat.le_of_ble_eq_true rfl, Nat.le_of_ble_eq_true rfl⟩) ⟨cP_blind, va_recv hKc hPc (ci := 2) (q0 := 0) rfl rfl, cP_of hPc hKc hDc (kE_at hE0 hAL hS)⟩ rfl rfl hl.1 rfl (lv_room (Nat.le_of_ble_eq_true rfl)) dL_limitAt_4 ⟨Nat.le_of_ble_eq_true rfl, Nat.le_of_ble_eq_true rfl⟩) hS (fun E ce q9 H1 hE hz1 hk1 hS hce hcv hcl => ?_) (fun hk0 => ?_)
  · have hP := c_PX hP hk1
    rcases hE with ⟨rfl, hk⟩
    · have hkn : ¬ k1 (inR v 3 30) = 0 := by rw [hk]; decide
      refine c_catch (L0 := L0) hown hE0 (Or.inl rfl) [] ⟨0, 9, 12, 13⟩ [] (htb.trans rfl) (fun z9 h9 => absurd h9 List.not_mem_nil) (by decide) (by decide) (hts (.classLink RL 13 xIAE) (by decide +kernel)) hce hcv hcl ?_
      show W _ _ _ _ _ _ _ _ _ _ _ _ _ _ _ (F0 m 12 ls [.ref q9])
      refine lv_astore_n (lv' := [(3, .ref q9), (0, .ref x), (1, .int v), (2, .ref qo)]) hx hb dL_limitAt_12 rfl hl (by decide) rfl (fun ls hl => ?_)
      refine lv_iconst (v := 1) hx hb dL_limitAt_13 (by decide) ?_
      refine W.widen (k := 1) (n := 6) (Nat.le_of_ble_eq_true rfl) (Nat.le_of_ble_eq_true rfl) ?_
      exact W.iret (v := 1) hx hb hRt (fun t ht hW => ⟨⟨by rw [hk], by rw [ht]; exact ⟨g0, (fun h => absurd h hkn), hP⟩⟩, hS.F ht⟩) hS.2.2 dL_limitAt_14
  · show W _ _ _ _ _ _ _ _ _ _ _ _ _ _ _ (F0 m 7 ls [.int (fl v.toNatClampNeg), .int 0, .ref qo])
    refine lv_i2l hx hb dL_limitAt_7 rfl ?_
    refine va_last hx hb hK hP hD hS 4 1 rfl rfl (vp_in_nI (n := 0) (by decide) (by decide)) dL_limitAt_8 (fun H locs hP hD hS => ?_)
    have hP : va_P D vwCl [(x, .inr (2, [.ref rg, .ref tr, .ref pn, .int (nI d), .int (nI r), .int ld, .int li, .int tl, .int mo])), (rg, .inr (1, [.ref ro, .ref rl, .int pl])), (ro, .inl (cI, 4, .inl fo)), (rl, .inl (cI, 28, .inl (sh fl))), (qo, .inl (cJ, 1, .inr (.inl (vp_updL g0 0 ((fl v.toNatClampNeg).toInt64)))))] H := hP
    have hD : va_D A [(x, .inr (2, [.ref rg, .ref tr, .ref pn, .int (nI d), .int (nI r), .int ld, .int li, .int tl, .int mo])), (rg, .inr (1, [.ref ro, .ref rl, .int pl])), (ro, .inl (cI, 4, .inl fo)), (rl, .inl (cI, 28, .inl (sh fl))), (qo, .inl (cJ, 1, .inr (.inl (vp_updL g0 0 ((fl v.toNatClampNeg).toInt64)))))] := hD
    refine lv_goto (tgt := 15) hx hb dL_limitAt_9 (by decide) ?_
    refine lv_iconst (v := 0) hx hb dL_limitAt_15 (by decide) ?_
    refine W.widen (k := 1) (n := 6) (Nat.le_of_ble_eq_true rfl) (Nat.le_of_ble_eq_true rfl) ?_
    exact W.iret (v := 0) hx hb hRt (fun t ht hW => ⟨⟨by rw [hk0], by rw [ht]; exact ⟨vp_updL g0 0 ((fl v.toNatClampNeg).toInt64), (fun _ => pk_uLs), hP⟩⟩, hS.F ht⟩) hS.2.2 dL_limitAt_16
set_option maxHeartbeats 4000000 in
set_option maxRecDepth 100000 in
/-- the law of strainOn -/
theorem w_strainOn (l : Launch) (hfl : l.stackTraces = false) (D : va_G) (L0 : Nat) (cI cJ : ClassId) (x rg tr pn ro rl d r : Nat) (ld li tl mo pl : Int32) (fo fl : Nat → Int32) (qo : Nat) (g0 : Nat → Int64) (v : Int32) (hd : d < 8) (hr : 3 ≤ r ∧ r ≤ 30) : Met l yL_strainOn wsL_strainOn ({ frames := 8, cells := 1, slots := 6, locals := 124 }) (cP L0 D [(cI, .int), (cJ, .long)] [(x, .inr (2, [.ref rg, .ref tr, .ref pn, .int (nI d), .int (nI r), .int ld, .int li, .int tl, .int mo])), (rg, .inr (1, [.ref ro, .ref rl, .int pl])), (ro, .inl (cI, 4, .inl fo)), (rl, .inl (cI, 28, .inl (sh fl))), (qo, .inl (cJ, 1, .inr (.inl g0)))] [.ref x, .int v, .ref qo]) (cB (some (.int (k1 (inR v 0 3)))) (fun H => ∃ g9 : Nat → Int64, (k1 (inR v 0 3) = 0 → g9 0 = (strS fo pl v.toNatClampNeg ld d r).toInt64) ∧ va_P D vwCl [(x, .inr (2, [.ref rg, .ref tr, .ref pn, .int (nI d), .int (nI r), .int ld, .int li, .int tl, .int mo])), (rg, .inr (1, [.ref ro, .ref rl, .int pl])), (ro, .inl (cI, 4, .inl fo)), (rl, .inl (cI, 28, .inl (sh fl))), (qo, .inl (cJ, 1, .inr (.inl g9)))] H) (cA [(x, .inr (2, [.ref rg, .ref tr, .ref pn, .int (nI d), .int (nI r), .int ld, .int li, .int tl, .int mo])), (rg, .inr (1, [.ref ro, .ref rl, .int pl])), (ro, .inl (cI, 4, .inl fo)), (rl, .inl (cI, 28, .inl (sh fl))), (qo, .inl (cJ, 1, .inr (.inl g0)))])) 1 6 (cA [(x, .inr (2, [.ref rg, .ref tr, .ref pn, .int (nI d), .int (nI r), .int ld, .int li, .int tl, .int mo])), (rg, .inr (1, [.ref ro, .ref rl, .int pl])), (ro, .inl (cI, 4, .inl fo)), (rl, .inl (cI, 28, .inl (sh fl))), (qo, .inl (cJ, 1, .inr (.inl g0)))]) := by
  refine c_ofWH (cc := cL_strainOn) (maxL := 4) (ret := (some .int)) (by decide) rfl ?_
  intro p e s m args below meth c s₁ B hml hv
  obtain ⟨rfl, hP, hK, hD0, hE0⟩ := hv
  have hx := B.exec
  have hb := B.bytes
  have hRt := B.returns
  have hts := atoms_spec (ws := wsL_strainOn) B.pre
  have hown : s.vm.findClass RL = some m.cls := findClass_of_methodNamed B.named
  have hlocks := B.notSynchronized
  have hAL : ∀ z9 : Nat, cA [(x, .inr (2, [.ref rg, .ref tr, .ref pn, .int (nI d), .int (nI r), .int ld, .int li, .int tl, .int mo])), (rg, .inr (1, [.ref ro, .ref rl, .int pl])), (ro, .inl (cI, 4, .inl fo)), (rl, .inl (cI, 28, .inl (sh fl))), (qo, .inl (cJ, 1, .inr (.inl g0)))] z9 → L0 ≤ z9 := fun z9 ⟨k9, e9, h9⟩ => hD0.2 k9 (z9, e9) h9
  have hD : va_D (cA [(x, .inr (2, [.ref rg, .ref tr, .ref pn, .int (nI d), .int (nI r), .int ld, .int li, .int tl, .int mo])), (rg, .inr (1, [.ref ro, .ref rl, .int pl])), (ro, .inl (cI, 4, .inl fo)), (rl, .inl (cI, 28, .inl (sh fl))), (qo, .inl (cJ, 1, .inr (.inl g0)))]) [(x, .inr (2, [.ref rg, .ref tr, .ref pn, .int (nI d), .int (nI r), .int ld, .int li, .int tl, .int mo])), (rg, .inr (1, [.ref ro, .ref rl, .int pl])), (ro, .inl (cI, 4, .inl fo)), (rl, .inl (cI, 28, .inl (sh fl))), (qo, .inl (cJ, 1, .inr (.inl g0)))] := ⟨hD0.1, fun k9 z9 h9 => cA_of h9⟩
  generalize hAe : cA [(x, .inr (2, [.ref rg, .ref tr, .ref pn, .int (nI d), .int (nI r), .int ld, .int li, .int tl, .int mo])), (rg, .inr (1, [.ref ro, .ref rl, .int pl])), (ro, .inl (cI, 4, .inl fo)), (rl, .inl (cI, 28, .inl (sh fl))), (qo, .inl (cJ, 1, .inr (.inl g0)))] = A at hD hAL ⊢
  have hS : va_S A s.heap s.heap [] := va_S.rf
  have hl := lv_entry ([.ref x, .int v, .ref qo]) (n := 4) (Nat.le_of_ble_eq_true rfl)
  rw [lg_entry_eq]
  generalize (lg_sl ([.ref x, .int v, .ref qo]) ++ List.replicate (4 - (lg_sl ([.ref x, .int v, .ref qo])).length) Slot.unset).toArray = ls at hl ⊢
  have hl : lv_has ls 4 [(0, .ref x), (1, .int v), (2, .ref qo)] := hl
  have htb := vx_table (x := yL_strainOn) B (hts (.codeWith yL_strainOn cL_strainOn 4 (some .int) [(0, 9, 12, 21)]) (by decide +kernel))
  refine lv_aload_n hx hb dL_strainOn_0 rfl (lv_at hl 2 rfl) ?_
  refine lv_iconst (v := 0) hx hb dL_strainOn_1 (by decide) ?_
  refine lv_aload_n hx hb dL_strainOn_2 rfl (lv_at hl 0 rfl) ?_
  refine lv_iload_n hx hb dL_strainOn_3 rfl (lv_at hl 1 rfl) ?_
  have hPc := hP.sub (ws' := [(x, .inr (2, [.ref rg, .ref tr, .ref pn, .int (nI d), .int (nI r), .int ld, .int li, .int tl, .int mo])), (rg, .inr (1, [.ref ro, .ref rl, .int pl])), (ro, .inl (cI, 4, .inl fo)), (rl, .inl (cI, 28, .inl (sh fl)))]) [0, 1, 2, 3] rfl
  have hDc : va_D (fun q : Nat => L0 ≤ q) [(x, .inr (2, [.ref rg, .ref tr, .ref pn, .int (nI d), .int (nI r), .int ld, .int li, .int tl, .int mo])), (rg, .inr (1, [.ref ro, .ref rl, .int pl])), (ro, .inl (cI, 4, .inl fo)), (rl, .inl (cI, 28, .inl (sh fl)))] := (hD.sub (ws' := [(x, .inr (2, [.ref rg, .ref tr, .ref pn, .int (nI d), .int (nI r), .int ld, .int li, .int tl, .int mo])), (rg, .inr (1, [.ref ro, .ref rl, .int pl])), (ro, .inl (cI, 4, .inl fo)), (rl, .inl (cI, 28, .inl (sh fl)))]) [0, 1, 2, 3] (by decide) rfl).weaken (fun _ z9 _ h9 => hAL _ h9)
  have hKc := hK.sub (tys' := [(cI, .int)]) [0] rfl
  refine c_callT (vx_runV (As := [.int v]) (rest := [.int 0, .ref qo]) ⟨hx, hb, hml, hown, hts⟩ (k_strainOn l hfl D L0 cI x rg tr pn ro rl d r ld li tl mo pl fo fl v hd hr) (cwV 1 hts gL_strainOn_X2_strainOn rfl rfl rfl (by decide +kernel) ⟨Nat.le_of_ble_eq_true rfl, Nat.le_of_ble_eq_true rfl⟩) ⟨cP_blind, va_recv hKc hPc (ci := 2) (q0 := 0) rfl rfl, cP_of hPc hKc hDc (kE_at hE0 hAL hS)⟩ rfl rfl hl.1 rfl (lv_room (Nat.le_of_ble_eq_true rfl)) dL_strainOn_4 ⟨Nat.le_of_ble_eq_true rfl, Nat.le_of_ble_eq_true rfl⟩) hS (fun E ce q9 H1 hE hz1 hk1 hS hce hcv hcl => ?_) (fun hk0 => ?_)
  · have hP := c_PX hP hk1
    rcases hE with ⟨rfl, hk⟩
    · have hkn : ¬ k1 (inR v 0 3) = 0 := by rw [hk]; decide
      refine c_catch (L0 := L0) hown hE0 (Or.inr (Or.inr rfl)) [] ⟨0, 9, 12, 21⟩ [] (htb.trans rfl) (fun z9 h9 => absurd h9 List.not_mem_nil) (by decide) (by decide) (hts (.classLink RL 21 xIOB) (by decide +kernel)) hce hcv hcl ?_
      show W _ _ _ _ _ _ _ _ _ _ _ _ _ _ _ (F0 m 12 ls [.ref q9])
      refine lv_astore_n (lv' := [(3, .ref q9), (0, .ref x), (1, .int v), (2, .ref qo)]) hx hb dL_strainOn_12 rfl hl (by decide) rfl (fun ls hl => ?_)
      refine lv_iconst (v := 1) hx hb dL_strainOn_13 (by decide) ?_
      refine W.widen (k := 1) (n := 6) (Nat.le_of_ble_eq_true rfl) (Nat.le_of_ble_eq_true rfl) ?_
      exact W.iret (v := 1) hx hb hRt (fun t ht hW => ⟨⟨by rw [hk], by rw [ht]; exact ⟨g0, (fun h => absurd h hkn), hP⟩⟩, hS.F ht⟩) hS.2.2 dL_strainOn_14
  · show W _ _ _ _ _ _ _ _ _ _ _ _ _ _ _ (F0 m 7 ls [.int (strS fo pl v.toNatClampNeg ld d r), .int 0, .ref qo])
    refine lv_i2l hx hb dL_strainOn_7 rfl ?_
    refine va_last hx hb hK hP hD hS 4 1 rfl rfl (vp_in_nI (n := 0) (by decide) (by decide)) dL_strainOn_8 (fun H locs hP hD hS => ?_)
    have hP : va_P D vwCl [(x, .inr (2, [.ref rg, .ref tr, .ref pn, .int (nI d), .int (nI r), .int ld, .int li, .int tl, .int mo])), (rg, .inr (1, [.ref ro, .ref rl, .int pl])), (ro, .inl (cI, 4, .inl fo)), (rl, .inl (cI, 28, .inl (sh fl))), (qo, .inl (cJ, 1, .inr (.inl (vp_updL g0 0 ((strS fo pl v.toNatClampNeg ld d r).toInt64)))))] H := hP
    have hD : va_D A [(x, .inr (2, [.ref rg, .ref tr, .ref pn, .int (nI d), .int (nI r), .int ld, .int li, .int tl, .int mo])), (rg, .inr (1, [.ref ro, .ref rl, .int pl])), (ro, .inl (cI, 4, .inl fo)), (rl, .inl (cI, 28, .inl (sh fl))), (qo, .inl (cJ, 1, .inr (.inl (vp_updL g0 0 ((strS fo pl v.toNatClampNeg ld d r).toInt64)))))] := hD
    refine lv_goto (tgt := 15) hx hb dL_strainOn_9 (by decide) ?_
    refine lv_iconst (v := 0) hx hb dL_strainOn_15 (by decide) ?_
    refine W.widen (k := 1) (n := 6) (Nat.le_of_ble_eq_true rfl) (Nat.le_of_ble_eq_true rfl) ?_
    exact W.iret (v := 0) hx hb hRt (fun t ht hW => ⟨⟨by rw [hk0], by rw [ht]; exact ⟨vp_updL g0 0 ((strS fo pl v.toNatClampNeg ld d r).toInt64), (fun _ => pk_uLs), hP⟩⟩, hS.F ht⟩) hS.2.2 dL_strainOn_16
set_option maxHeartbeats 4000000 in
set_option maxRecDepth 100000 in
/-- the law of isSafeWith -/
theorem w_isSafeWith (l : Launch) (hfl : l.stackTraces = false) (D : va_G) (L0 : Nat) (cI cJ : ClassId) (x rg tr pn ro rl d r : Nat) (ld li tl mo pl : Int32) (fo fl : Nat → Int32) (qo : Nat) (g0 : Nat → Int64) (u : Int32) (v : Int32) (z : Int32) : Met l yL_isSafeWith wsL_isSafeWith ({ frames := 8, cells := 3, slots := 18, locals := 126 }) (cP L0 D [(cI, .int), (cJ, .long)] [(x, .inr (2, [.ref rg, .ref tr, .ref pn, .int (nI d), .int (nI r), .int ld, .int li, .int tl, .int mo])), (rg, .inr (1, [.ref ro, .ref rl, .int pl])), (ro, .inl (cI, 4, .inl fo)), (rl, .inl (cI, 28, .inl (sh fl))), (qo, .inl (cJ, 1, .inr (.inl g0)))] [.ref x, .int u, .int v, .int z, .ref qo]) (cB (some (.int (k2 (inR v 0 7) (inR u 0 60 ∧ inR z 3 30)))) (fun H => ∃ g9 : Nat → Int64, (k2 (inR v 0 7) (inR u 0 60 ∧ inR z 3 30) = 0 → g9 0 = (bI (safS fo fl pl u v.toNatClampNeg z.toNatClampNeg)).toInt64) ∧ va_P D vwCl [(x, .inr (2, [.ref rg, .ref tr, .ref pn, .int (nI d), .int (nI r), .int ld, .int li, .int tl, .int mo])), (rg, .inr (1, [.ref ro, .ref rl, .int pl])), (ro, .inl (cI, 4, .inl fo)), (rl, .inl (cI, 28, .inl (sh fl))), (qo, .inl (cJ, 1, .inr (.inl g9)))] H) (cA [(x, .inr (2, [.ref rg, .ref tr, .ref pn, .int (nI d), .int (nI r), .int ld, .int li, .int tl, .int mo])), (rg, .inr (1, [.ref ro, .ref rl, .int pl])), (ro, .inl (cI, 4, .inl fo)), (rl, .inl (cI, 28, .inl (sh fl))), (qo, .inl (cJ, 1, .inr (.inl g0)))])) 3 18 (cA [(x, .inr (2, [.ref rg, .ref tr, .ref pn, .int (nI d), .int (nI r), .int ld, .int li, .int tl, .int mo])), (rg, .inr (1, [.ref ro, .ref rl, .int pl])), (ro, .inl (cI, 4, .inl fo)), (rl, .inl (cI, 28, .inl (sh fl))), (qo, .inl (cJ, 1, .inr (.inl g0)))]) := by
  refine c_ofWH (cc := cL_isSafeWith) (maxL := 6) (ret := (some .int)) (by decide) rfl ?_
  intro p e s m args below meth c s₁ B hml hv
  obtain ⟨rfl, hP, hK, hD0, hE0⟩ := hv
  have hx := B.exec
  have hb := B.bytes
  have hRt := B.returns
  have hts := atoms_spec (ws := wsL_isSafeWith) B.pre
  have hown : s.vm.findClass RL = some m.cls := findClass_of_methodNamed B.named
  have hlocks := B.notSynchronized
  have hAL : ∀ z9 : Nat, cA [(x, .inr (2, [.ref rg, .ref tr, .ref pn, .int (nI d), .int (nI r), .int ld, .int li, .int tl, .int mo])), (rg, .inr (1, [.ref ro, .ref rl, .int pl])), (ro, .inl (cI, 4, .inl fo)), (rl, .inl (cI, 28, .inl (sh fl))), (qo, .inl (cJ, 1, .inr (.inl g0)))] z9 → L0 ≤ z9 := fun z9 ⟨k9, e9, h9⟩ => hD0.2 k9 (z9, e9) h9
  have hD : va_D (cA [(x, .inr (2, [.ref rg, .ref tr, .ref pn, .int (nI d), .int (nI r), .int ld, .int li, .int tl, .int mo])), (rg, .inr (1, [.ref ro, .ref rl, .int pl])), (ro, .inl (cI, 4, .inl fo)), (rl, .inl (cI, 28, .inl (sh fl))), (qo, .inl (cJ, 1, .inr (.inl g0)))]) [(x, .inr (2, [.ref rg, .ref tr, .ref pn, .int (nI d), .int (nI r), .int ld, .int li, .int tl, .int mo])), (rg, .inr (1, [.ref ro, .ref rl, .int pl])), (ro, .inl (cI, 4, .inl fo)), (rl, .inl (cI, 28, .inl (sh fl))), (qo, .inl (cJ, 1, .inr (.inl g0)))] := ⟨hD0.1, fun k9 z9 h9 => cA_of h9⟩
  generalize hAe : cA [(x, .inr (2, [.ref rg, .ref tr, .ref pn, .int (nI d), .int (nI r), .int ld, .int li, .int tl, .int mo])), (rg, .inr (1, [.ref ro, .ref rl, .int pl])), (ro, .inl (cI, 4, .inl fo)), (rl, .inl (cI, 28, .inl (sh fl))), (qo, .inl (cJ, 1, .inr (.inl g0)))] = A at hD hAL ⊢
  have hS : va_S A s.heap s.heap [] := va_S.rf
  have hl := lv_entry ([.ref x, .int u, .int v, .int z, .ref qo]) (n := 6) (Nat.le_of_ble_eq_true rfl)
  rw [lg_entry_eq]
  generalize (lg_sl ([.ref x, .int u, .int v, .int z, .ref qo]) ++ List.replicate (6 - (lg_sl ([.ref x, .int u, .int v, .int z, .ref qo])).length) Slot.unset).toArray = ls at hl ⊢
  have hl : lv_has ls 6 [(0, .ref x), (1, .int u), (2, .int v), (3, .int z), (4, .ref qo)] := hl
  have htb := vx_table (x := yL_isSafeWith) B (hts (.codeWith yL_isSafeWith cL_isSafeWith 6 (some .int) [(0, 19, 22, 21), (0, 19, 26, 13)]) (by decide +kernel))
  refine lv_aload hx hb dL_isSafeWith_0 (lv_at hl 4 rfl) ?_
  refine lv_iconst (v := 0) hx hb dL_isSafeWith_2 (by decide) ?_
  refine lv_aload_n hx hb dL_isSafeWith_3 rfl (lv_at hl 0 rfl) ?_
  refine lv_iload_n hx hb dL_isSafeWith_4 rfl (lv_at hl 1 rfl) ?_
  refine lv_iload_n hx hb dL_isSafeWith_5 rfl (lv_at hl 2 rfl) ?_
  refine lv_iload_n hx hb dL_isSafeWith_6 rfl (lv_at hl 3 rfl) ?_
  have hPc := hP.sub (ws' := [(x, .inr (2, [.ref rg, .ref tr, .ref pn, .int (nI d), .int (nI r), .int ld, .int li, .int tl, .int mo])), (rg, .inr (1, [.ref ro, .ref rl, .int pl])), (ro, .inl (cI, 4, .inl fo)), (rl, .inl (cI, 28, .inl (sh fl)))]) [0, 1, 2, 3] rfl
  have hDc : va_D (fun q : Nat => L0 ≤ q) [(x, .inr (2, [.ref rg, .ref tr, .ref pn, .int (nI d), .int (nI r), .int ld, .int li, .int tl, .int mo])), (rg, .inr (1, [.ref ro, .ref rl, .int pl])), (ro, .inl (cI, 4, .inl fo)), (rl, .inl (cI, 28, .inl (sh fl)))] := (hD.sub (ws' := [(x, .inr (2, [.ref rg, .ref tr, .ref pn, .int (nI d), .int (nI r), .int ld, .int li, .int tl, .int mo])), (rg, .inr (1, [.ref ro, .ref rl, .int pl])), (ro, .inl (cI, 4, .inl fo)), (rl, .inl (cI, 28, .inl (sh fl)))]) [0, 1, 2, 3] (by decide) rfl).weaken (fun _ z9 _ h9 => hAL _ h9)
  have hKc := hK.sub (tys' := [(cI, .int)]) [0] rfl
  refine c_callT (vx_runV (As := [.int u, .int v, .int z]) (rest := [.int 0, .ref qo]) ⟨hx, hb, hml, hown, hts⟩ (k_isSafeWith l hfl D L0 cI x rg tr pn ro rl d r ld li tl mo pl fo fl u v z) (cwV 3 hts gL_isSafeWith_X2_isSafeWith rfl rfl rfl (by decide +kernel) ⟨Nat.le_of_ble_eq_true rfl, Nat.le_of_ble_eq_true rfl⟩) ⟨cP_blind, va_recv hKc hPc (ci := 2) (q0 := 0) rfl rfl, cP_of hPc hKc hDc (kE_at hE0 hAL hS)⟩ rfl rfl hl.1 rfl (lv_room (Nat.le_of_ble_eq_true rfl)) dL_isSafeWith_7 ⟨Nat.le_of_ble_eq_true rfl, Nat.le_of_ble_eq_true rfl⟩) hS (fun E ce q9 H1 hE hz1 hk1 hS hce hcv hcl => ?_) (fun hk0 => ?_)
  · have hP := c_PX hP hk1
    rcases hE with ⟨rfl, hk⟩ | ⟨rfl, hk⟩
    · have hkn : ¬ k2 (inR v 0 7) (inR u 0 60 ∧ inR z 3 30) = 0 := by rw [hk]; decide
      refine c_catch (L0 := L0) hown hE0 (Or.inr (Or.inr rfl)) [] ⟨0, 19, 22, 21⟩ [⟨0, 19, 26, 13⟩] (htb.trans rfl) (fun z9 h9 => absurd h9 List.not_mem_nil) (by decide) (by decide) (hts (.classLink RL 21 xIOB) (by decide +kernel)) hce hcv hcl ?_
      show W _ _ _ _ _ _ _ _ _ _ _ _ _ _ _ (F0 m 22 ls [.ref q9])
      refine lv_astore (lv' := [(5, .ref q9), (0, .ref x), (1, .int u), (2, .int v), (3, .int z), (4, .ref qo)]) hx hb dL_isSafeWith_22 hl (by decide) rfl (fun ls hl => ?_)
      refine lv_iconst (v := 1) hx hb dL_isSafeWith_24 (by decide) ?_
      refine W.widen (k := 3) (n := 18) (Nat.le_of_ble_eq_true rfl) (Nat.le_of_ble_eq_true rfl) ?_
      exact W.iret (v := 1) hx hb hRt (fun t ht hW => ⟨⟨by rw [hk], by rw [ht]; exact ⟨g0, (fun h => absurd h hkn), hP⟩⟩, hS.F ht⟩) hS.2.2 dL_isSafeWith_25
    · have hkn : ¬ k2 (inR v 0 7) (inR u 0 60 ∧ inR z 3 30) = 0 := by rw [hk]; decide
      refine c_catch (L0 := L0) hown hE0 (Or.inl rfl) [⟨0, 19, 22, 21⟩] ⟨0, 19, 26, 13⟩ [] (htb.trans rfl) (fun z9 h9 => by
            simp only [List.mem_cons, List.not_mem_nil, or_false] at h9
            rcases h9 with rfl
            · exact ⟨by decide, xIOB, hts (.classLink RL 21 xIOB) (by decide +kernel), (kE_nc hE0).2.1⟩) (by decide) (by decide) (hts (.classLink RL 13 xIAE) (by decide +kernel)) hce hcv hcl ?_
      show W _ _ _ _ _ _ _ _ _ _ _ _ _ _ _ (F0 m 26 ls [.ref q9])
      refine lv_astore (lv' := [(5, .ref q9), (0, .ref x), (1, .int u), (2, .int v), (3, .int z), (4, .ref qo)]) hx hb dL_isSafeWith_26 hl (by decide) rfl (fun ls hl => ?_)
      refine lv_iconst (v := 2) hx hb dL_isSafeWith_28 (by decide) ?_
      refine W.widen (k := 3) (n := 18) (Nat.le_of_ble_eq_true rfl) (Nat.le_of_ble_eq_true rfl) ?_
      exact W.iret (v := 2) hx hb hRt (fun t ht hW => ⟨⟨by rw [hk], by rw [ht]; exact ⟨g0, (fun h => absurd h hkn), hP⟩⟩, hS.F ht⟩) hS.2.2 dL_isSafeWith_29
  · show W _ _ _ _ _ _ _ _ _ _ _ _ _ _ _ (F0 m 10 ls [.int (bI (safS fo fl pl u v.toNatClampNeg z.toNatClampNeg)), .int 0, .ref qo])
    obtain ⟨b_48, hbv_49⟩ : ∃ z9 : Bool, z9 = safS fo fl pl u v.toNatClampNeg z.toNatClampNeg := ⟨_, rfl⟩
    refine c_top (show (bI (safS fo fl pl u v.toNatClampNeg z.toNatClampNeg)) = bI b_48 from by rw [hbv_49]) ?_
    refine lv_if_eq (tgt := 17) hx hb dL_isSafeWith_10 (by decide) (fun c_50 => ?_) (fun c_50 => ?_)
    · have hs : safS fo fl pl u v.toNatClampNeg z.toNatClampNeg = false := by rw [← hbv_49]; cases b_48 with | false => rfl | true => exact absurd c_50 (by decide)
      refine lv_lconst (v := 0) hx hb dL_isSafeWith_17 (by decide) ?_
      refine c_topl (show (0 : Int64) = (bI (safS fo fl pl u v.toNatClampNeg z.toNatClampNeg)).toInt64 from by rw [hs]; rfl) ?_
      refine va_last hx hb hK hP hD hS 4 1 rfl rfl (vp_in_nI (n := 0) (by decide) (by decide)) dL_isSafeWith_18 (fun H locs hP hD hS => ?_)
      have hP : va_P D vwCl [(x, .inr (2, [.ref rg, .ref tr, .ref pn, .int (nI d), .int (nI r), .int ld, .int li, .int tl, .int mo])), (rg, .inr (1, [.ref ro, .ref rl, .int pl])), (ro, .inl (cI, 4, .inl fo)), (rl, .inl (cI, 28, .inl (sh fl))), (qo, .inl (cJ, 1, .inr (.inl (vp_updL g0 0 ((bI (safS fo fl pl u v.toNatClampNeg z.toNatClampNeg)).toInt64)))))] H := hP
      have hD : va_D A [(x, .inr (2, [.ref rg, .ref tr, .ref pn, .int (nI d), .int (nI r), .int ld, .int li, .int tl, .int mo])), (rg, .inr (1, [.ref ro, .ref rl, .int pl])), (ro, .inl (cI, 4, .inl fo)), (rl, .inl (cI, 28, .inl (sh fl))), (qo, .inl (cJ, 1, .inr (.inl (vp_updL g0 0 ((bI (safS fo fl pl u v.toNatClampNeg z.toNatClampNeg)).toInt64)))))] := hD
      refine lv_goto (tgt := 30) hx hb dL_isSafeWith_19 (by decide) ?_
      refine lv_iconst (v := 0) hx hb dL_isSafeWith_30 (by decide) ?_
      refine W.widen (k := 3) (n := 18) (Nat.le_of_ble_eq_true rfl) (Nat.le_of_ble_eq_true rfl) ?_
      exact W.iret (v := 0) hx hb hRt (fun t ht hW => ⟨⟨by rw [hk0], by rw [ht]; exact ⟨vp_updL g0 0 ((bI (safS fo fl pl u v.toNatClampNeg z.toNatClampNeg)).toInt64), (fun _ => pk_uLs), hP⟩⟩, hS.F ht⟩) hS.2.2 dL_isSafeWith_31
    · have hs : safS fo fl pl u v.toNatClampNeg z.toNatClampNeg = true := by rw [← hbv_49]; cases b_48 with | true => rfl | false => exact absurd rfl c_50
      refine lv_lconst (v := 1) hx hb dL_isSafeWith_13 (by decide) ?_
      refine lv_goto (tgt := 18) hx hb dL_isSafeWith_14 (by decide) ?_
      refine c_topl (show (1 : Int64) = (bI (safS fo fl pl u v.toNatClampNeg z.toNatClampNeg)).toInt64 from by rw [hs]; rfl) ?_
      refine va_last hx hb hK hP hD hS 4 1 rfl rfl (vp_in_nI (n := 0) (by decide) (by decide)) dL_isSafeWith_18 (fun H locs hP hD hS => ?_)
      have hP : va_P D vwCl [(x, .inr (2, [.ref rg, .ref tr, .ref pn, .int (nI d), .int (nI r), .int ld, .int li, .int tl, .int mo])), (rg, .inr (1, [.ref ro, .ref rl, .int pl])), (ro, .inl (cI, 4, .inl fo)), (rl, .inl (cI, 28, .inl (sh fl))), (qo, .inl (cJ, 1, .inr (.inl (vp_updL g0 0 ((bI (safS fo fl pl u v.toNatClampNeg z.toNatClampNeg)).toInt64)))))] H := hP
      have hD : va_D A [(x, .inr (2, [.ref rg, .ref tr, .ref pn, .int (nI d), .int (nI r), .int ld, .int li, .int tl, .int mo])), (rg, .inr (1, [.ref ro, .ref rl, .int pl])), (ro, .inl (cI, 4, .inl fo)), (rl, .inl (cI, 28, .inl (sh fl))), (qo, .inl (cJ, 1, .inr (.inl (vp_updL g0 0 ((bI (safS fo fl pl u v.toNatClampNeg z.toNatClampNeg)).toInt64)))))] := hD
      refine lv_goto (tgt := 30) hx hb dL_isSafeWith_19 (by decide) ?_
      refine lv_iconst (v := 0) hx hb dL_isSafeWith_30 (by decide) ?_
      refine W.widen (k := 3) (n := 18) (Nat.le_of_ble_eq_true rfl) (Nat.le_of_ble_eq_true rfl) ?_
      exact W.iret (v := 0) hx hb hRt (fun t ht hW => ⟨⟨by rw [hk0], by rw [ht]; exact ⟨vp_updL g0 0 ((bI (safS fo fl pl u v.toNatClampNeg z.toNatClampNeg)).toInt64), (fun _ => pk_uLs), hP⟩⟩, hS.F ht⟩) hS.2.2 dL_isSafeWith_31
set_option maxHeartbeats 4000000 in
set_option maxRecDepth 100000 in
/-- the law of farthestReach -/
theorem w_farthestReach (l : Launch) (hfl : l.stackTraces = false) (D : va_G) (L0 : Nat) (cI cJ : ClassId) (x rg tr pn ro rl d r : Nat) (ld li tl mo pl : Int32) (fo fl : Nat → Int32) (qo : Nat) (g0 : Nat → Int64) (u : Int32) (v : Int32) : Met l yL_farthestReach wsL_farthestReach ({ frames := 8, cells := 2, slots := 12, locals := 127 }) (cP L0 D [(cI, .int), (cJ, .long)] [(x, .inr (2, [.ref rg, .ref tr, .ref pn, .int (nI d), .int (nI r), .int ld, .int li, .int tl, .int mo])), (rg, .inr (1, [.ref ro, .ref rl, .int pl])), (ro, .inl (cI, 4, .inl fo)), (rl, .inl (cI, 28, .inl (sh fl))), (qo, .inl (cJ, 1, .inr (.inl g0)))] [.ref x, .int u, .int v, .ref qo]) (cB (some (.int (k2 (inR v 0 7) (inR u 0 60)))) (fun H => ∃ g9 : Nat → Int64, (k2 (inR v 0 7) (inR u 0 60) = 0 → g9 0 = (faI (faN (fun k => safS fo fl pl u v.toNatClampNeg k) 28 3)).toInt64) ∧ va_P D vwCl [(x, .inr (2, [.ref rg, .ref tr, .ref pn, .int (nI d), .int (nI r), .int ld, .int li, .int tl, .int mo])), (rg, .inr (1, [.ref ro, .ref rl, .int pl])), (ro, .inl (cI, 4, .inl fo)), (rl, .inl (cI, 28, .inl (sh fl))), (qo, .inl (cJ, 1, .inr (.inl g9)))] H) (cA [(x, .inr (2, [.ref rg, .ref tr, .ref pn, .int (nI d), .int (nI r), .int ld, .int li, .int tl, .int mo])), (rg, .inr (1, [.ref ro, .ref rl, .int pl])), (ro, .inl (cI, 4, .inl fo)), (rl, .inl (cI, 28, .inl (sh fl))), (qo, .inl (cJ, 1, .inr (.inl g0)))])) 2 12 (cA [(x, .inr (2, [.ref rg, .ref tr, .ref pn, .int (nI d), .int (nI r), .int ld, .int li, .int tl, .int mo])), (rg, .inr (1, [.ref ro, .ref rl, .int pl])), (ro, .inl (cI, 4, .inl fo)), (rl, .inl (cI, 28, .inl (sh fl))), (qo, .inl (cJ, 1, .inr (.inl g0)))]) := by
  refine c_ofWH (cc := cL_farthestReach) (maxL := 5) (ret := (some .int)) (by decide) rfl ?_
  intro p e s m args below meth c s₁ B hml hv
  obtain ⟨rfl, hP, hK, hD0, hE0⟩ := hv
  have hx := B.exec
  have hb := B.bytes
  have hRt := B.returns
  have hts := atoms_spec (ws := wsL_farthestReach) B.pre
  have hown : s.vm.findClass RL = some m.cls := findClass_of_methodNamed B.named
  have hlocks := B.notSynchronized
  have hAL : ∀ z9 : Nat, cA [(x, .inr (2, [.ref rg, .ref tr, .ref pn, .int (nI d), .int (nI r), .int ld, .int li, .int tl, .int mo])), (rg, .inr (1, [.ref ro, .ref rl, .int pl])), (ro, .inl (cI, 4, .inl fo)), (rl, .inl (cI, 28, .inl (sh fl))), (qo, .inl (cJ, 1, .inr (.inl g0)))] z9 → L0 ≤ z9 := fun z9 ⟨k9, e9, h9⟩ => hD0.2 k9 (z9, e9) h9
  have hD : va_D (cA [(x, .inr (2, [.ref rg, .ref tr, .ref pn, .int (nI d), .int (nI r), .int ld, .int li, .int tl, .int mo])), (rg, .inr (1, [.ref ro, .ref rl, .int pl])), (ro, .inl (cI, 4, .inl fo)), (rl, .inl (cI, 28, .inl (sh fl))), (qo, .inl (cJ, 1, .inr (.inl g0)))]) [(x, .inr (2, [.ref rg, .ref tr, .ref pn, .int (nI d), .int (nI r), .int ld, .int li, .int tl, .int mo])), (rg, .inr (1, [.ref ro, .ref rl, .int pl])), (ro, .inl (cI, 4, .inl fo)), (rl, .inl (cI, 28, .inl (sh fl))), (qo, .inl (cJ, 1, .inr (.inl g0)))] := ⟨hD0.1, fun k9 z9 h9 => cA_of h9⟩
  generalize hAe : cA [(x, .inr (2, [.ref rg, .ref tr, .ref pn, .int (nI d), .int (nI r), .int ld, .int li, .int tl, .int mo])), (rg, .inr (1, [.ref ro, .ref rl, .int pl])), (ro, .inl (cI, 4, .inl fo)), (rl, .inl (cI, 28, .inl (sh fl))), (qo, .inl (cJ, 1, .inr (.inl g0)))] = A at hD hAL ⊢
  have hS : va_S A s.heap s.heap [] := va_S.rf
  have hl := lv_entry ([.ref x, .int u, .int v, .ref qo]) (n := 5) (Nat.le_of_ble_eq_true rfl)
  rw [lg_entry_eq]
  generalize (lg_sl ([.ref x, .int u, .int v, .ref qo]) ++ List.replicate (5 - (lg_sl ([.ref x, .int u, .int v, .ref qo])).length) Slot.unset).toArray = ls at hl ⊢
  have hl : lv_has ls 5 [(0, .ref x), (1, .int u), (2, .int v), (3, .ref qo)] := hl
  have htb := vx_table (x := yL_farthestReach) B (hts (.codeWith yL_farthestReach cL_farthestReach 5 (some .int) [(0, 10, 13, 21), (0, 10, 17, 13)]) (by decide +kernel))
  refine lv_aload_n hx hb dL_farthestReach_0 rfl (lv_at hl 3 rfl) ?_
  refine lv_iconst (v := 0) hx hb dL_farthestReach_1 (by decide) ?_
  refine lv_aload_n hx hb dL_farthestReach_2 rfl (lv_at hl 0 rfl) ?_
  refine lv_iload_n hx hb dL_farthestReach_3 rfl (lv_at hl 1 rfl) ?_
  refine lv_iload_n hx hb dL_farthestReach_4 rfl (lv_at hl 2 rfl) ?_
  have hPc := hP.sub (ws' := [(x, .inr (2, [.ref rg, .ref tr, .ref pn, .int (nI d), .int (nI r), .int ld, .int li, .int tl, .int mo])), (rg, .inr (1, [.ref ro, .ref rl, .int pl])), (ro, .inl (cI, 4, .inl fo)), (rl, .inl (cI, 28, .inl (sh fl)))]) [0, 1, 2, 3] rfl
  have hDc : va_D (fun q : Nat => L0 ≤ q) [(x, .inr (2, [.ref rg, .ref tr, .ref pn, .int (nI d), .int (nI r), .int ld, .int li, .int tl, .int mo])), (rg, .inr (1, [.ref ro, .ref rl, .int pl])), (ro, .inl (cI, 4, .inl fo)), (rl, .inl (cI, 28, .inl (sh fl)))] := (hD.sub (ws' := [(x, .inr (2, [.ref rg, .ref tr, .ref pn, .int (nI d), .int (nI r), .int ld, .int li, .int tl, .int mo])), (rg, .inr (1, [.ref ro, .ref rl, .int pl])), (ro, .inl (cI, 4, .inl fo)), (rl, .inl (cI, 28, .inl (sh fl)))]) [0, 1, 2, 3] (by decide) rfl).weaken (fun _ z9 _ h9 => hAL _ h9)
  have hKc := hK.sub (tys' := [(cI, .int)]) [0] rfl
  refine c_callT (vx_runV (As := [.int u, .int v]) (rest := [.int 0, .ref qo]) ⟨hx, hb, hml, hown, hts⟩ (k_farthestReach l hfl D L0 cI x rg tr pn ro rl d r ld li tl mo pl fo fl u v) (cwV 2 hts gL_farthestReach_X2_farthestReach rfl rfl rfl (by decide +kernel) ⟨Nat.le_of_ble_eq_true rfl, Nat.le_of_ble_eq_true rfl⟩) ⟨cP_blind, va_recv hKc hPc (ci := 2) (q0 := 0) rfl rfl, cP_of hPc hKc hDc (kE_at hE0 hAL hS)⟩ rfl rfl hl.1 rfl (lv_room (Nat.le_of_ble_eq_true rfl)) dL_farthestReach_5 ⟨Nat.le_of_ble_eq_true rfl, Nat.le_of_ble_eq_true rfl⟩) hS (fun E ce q9 H1 hE hz1 hk1 hS hce hcv hcl => ?_) (fun hk0 => ?_)
  · have hP := c_PX hP hk1
    rcases hE with ⟨rfl, hk⟩ | ⟨rfl, hk⟩
    · have hkn : ¬ k2 (inR v 0 7) (inR u 0 60) = 0 := by rw [hk]; decide
      refine c_catch (L0 := L0) hown hE0 (Or.inr (Or.inr rfl)) [] ⟨0, 10, 13, 21⟩ [⟨0, 10, 17, 13⟩] (htb.trans rfl) (fun z9 h9 => absurd h9 List.not_mem_nil) (by decide) (by decide) (hts (.classLink RL 21 xIOB) (by decide +kernel)) hce hcv hcl ?_
      show W _ _ _ _ _ _ _ _ _ _ _ _ _ _ _ (F0 m 13 ls [.ref q9])
      refine lv_astore (lv' := [(4, .ref q9), (0, .ref x), (1, .int u), (2, .int v), (3, .ref qo)]) hx hb dL_farthestReach_13 hl (by decide) rfl (fun ls hl => ?_)
      refine lv_iconst (v := 1) hx hb dL_farthestReach_15 (by decide) ?_
      refine W.widen (k := 2) (n := 12) (Nat.le_of_ble_eq_true rfl) (Nat.le_of_ble_eq_true rfl) ?_
      exact W.iret (v := 1) hx hb hRt (fun t ht hW => ⟨⟨by rw [hk], by rw [ht]; exact ⟨g0, (fun h => absurd h hkn), hP⟩⟩, hS.F ht⟩) hS.2.2 dL_farthestReach_16
    · have hkn : ¬ k2 (inR v 0 7) (inR u 0 60) = 0 := by rw [hk]; decide
      refine c_catch (L0 := L0) hown hE0 (Or.inl rfl) [⟨0, 10, 13, 21⟩] ⟨0, 10, 17, 13⟩ [] (htb.trans rfl) (fun z9 h9 => by
            simp only [List.mem_cons, List.not_mem_nil, or_false] at h9
            rcases h9 with rfl
            · exact ⟨by decide, xIOB, hts (.classLink RL 21 xIOB) (by decide +kernel), (kE_nc hE0).2.1⟩) (by decide) (by decide) (hts (.classLink RL 13 xIAE) (by decide +kernel)) hce hcv hcl ?_
      show W _ _ _ _ _ _ _ _ _ _ _ _ _ _ _ (F0 m 17 ls [.ref q9])
      refine lv_astore (lv' := [(4, .ref q9), (0, .ref x), (1, .int u), (2, .int v), (3, .ref qo)]) hx hb dL_farthestReach_17 hl (by decide) rfl (fun ls hl => ?_)
      refine lv_iconst (v := 2) hx hb dL_farthestReach_19 (by decide) ?_
      refine W.widen (k := 2) (n := 12) (Nat.le_of_ble_eq_true rfl) (Nat.le_of_ble_eq_true rfl) ?_
      exact W.iret (v := 2) hx hb hRt (fun t ht hW => ⟨⟨by rw [hk], by rw [ht]; exact ⟨g0, (fun h => absurd h hkn), hP⟩⟩, hS.F ht⟩) hS.2.2 dL_farthestReach_20
  · show W _ _ _ _ _ _ _ _ _ _ _ _ _ _ _ (F0 m 8 ls [.int (faI (faN (fun k => safS fo fl pl u v.toNatClampNeg k) 28 3)), .int 0, .ref qo])
    refine lv_i2l hx hb dL_farthestReach_8 rfl ?_
    refine va_last hx hb hK hP hD hS 4 1 rfl rfl (vp_in_nI (n := 0) (by decide) (by decide)) dL_farthestReach_9 (fun H locs hP hD hS => ?_)
    have hP : va_P D vwCl [(x, .inr (2, [.ref rg, .ref tr, .ref pn, .int (nI d), .int (nI r), .int ld, .int li, .int tl, .int mo])), (rg, .inr (1, [.ref ro, .ref rl, .int pl])), (ro, .inl (cI, 4, .inl fo)), (rl, .inl (cI, 28, .inl (sh fl))), (qo, .inl (cJ, 1, .inr (.inl (vp_updL g0 0 ((faI (faN (fun k => safS fo fl pl u v.toNatClampNeg k) 28 3)).toInt64)))))] H := hP
    have hD : va_D A [(x, .inr (2, [.ref rg, .ref tr, .ref pn, .int (nI d), .int (nI r), .int ld, .int li, .int tl, .int mo])), (rg, .inr (1, [.ref ro, .ref rl, .int pl])), (ro, .inl (cI, 4, .inl fo)), (rl, .inl (cI, 28, .inl (sh fl))), (qo, .inl (cJ, 1, .inr (.inl (vp_updL g0 0 ((faI (faN (fun k => safS fo fl pl u v.toNatClampNeg k) 28 3)).toInt64)))))] := hD
    refine lv_goto (tgt := 21) hx hb dL_farthestReach_10 (by decide) ?_
    refine lv_iconst (v := 0) hx hb dL_farthestReach_21 (by decide) ?_
    refine W.widen (k := 2) (n := 12) (Nat.le_of_ble_eq_true rfl) (Nat.le_of_ble_eq_true rfl) ?_
    exact W.iret (v := 0) hx hb hRt (fun t ht hW => ⟨⟨by rw [hk0], by rw [ht]; exact ⟨vp_updL g0 0 ((faI (faN (fun k => safS fo fl pl u v.toNatClampNeg k) 28 3)).toInt64), (fun _ => pk_uLs), hP⟩⟩, hS.F ht⟩) hS.2.2 dL_farthestReach_22
set_option maxHeartbeats 4000000 in
set_option maxRecDepth 100000 in
/-- the law of safeDirections -/
theorem w_safeDirections (l : Launch) (hfl : l.stackTraces = false) (D : va_G) (L0 : Nat) (cI cJ : ClassId) (x rg tr pn ro rl d r : Nat) (ld li tl mo pl : Int32) (fo fl : Nat → Int32) (qo : Nat) (g0 : Nat → Int64) (u : Int32) (z : Int32) : Met l yL_safeDirections wsL_safeDirections ({ frames := 8, cells := 2, slots := 12, locals := 127 }) (cP L0 D [(cI, .int), (cJ, .long)] [(x, .inr (2, [.ref rg, .ref tr, .ref pn, .int (nI d), .int (nI r), .int ld, .int li, .int tl, .int mo])), (rg, .inr (1, [.ref ro, .ref rl, .int pl])), (ro, .inl (cI, 4, .inl fo)), (rl, .inl (cI, 28, .inl (sh fl))), (qo, .inl (cJ, 1, .inr (.inl g0)))] [.ref x, .int u, .int z, .ref qo]) (cB (some (.int (k1 (inR u 0 60 ∧ inR z 3 30)))) (fun H => ∃ g9 : Nat → Int64, (k1 (inR u 0 60 ∧ inR z 3 30) = 0 → g9 0 = (nI (fb_ct (fun k => safS fo fl pl u k z.toNatClampNeg) 8)).toInt64) ∧ va_P D vwCl [(x, .inr (2, [.ref rg, .ref tr, .ref pn, .int (nI d), .int (nI r), .int ld, .int li, .int tl, .int mo])), (rg, .inr (1, [.ref ro, .ref rl, .int pl])), (ro, .inl (cI, 4, .inl fo)), (rl, .inl (cI, 28, .inl (sh fl))), (qo, .inl (cJ, 1, .inr (.inl g9)))] H) (cA [(x, .inr (2, [.ref rg, .ref tr, .ref pn, .int (nI d), .int (nI r), .int ld, .int li, .int tl, .int mo])), (rg, .inr (1, [.ref ro, .ref rl, .int pl])), (ro, .inl (cI, 4, .inl fo)), (rl, .inl (cI, 28, .inl (sh fl))), (qo, .inl (cJ, 1, .inr (.inl g0)))])) 2 12 (cA [(x, .inr (2, [.ref rg, .ref tr, .ref pn, .int (nI d), .int (nI r), .int ld, .int li, .int tl, .int mo])), (rg, .inr (1, [.ref ro, .ref rl, .int pl])), (ro, .inl (cI, 4, .inl fo)), (rl, .inl (cI, 28, .inl (sh fl))), (qo, .inl (cJ, 1, .inr (.inl g0)))]) := by
  refine c_ofWH (cc := cL_safeDirections) (maxL := 5) (ret := (some .int)) (by decide) rfl ?_
  intro p e s m args below meth c s₁ B hml hv
  obtain ⟨rfl, hP, hK, hD0, hE0⟩ := hv
  have hx := B.exec
  have hb := B.bytes
  have hRt := B.returns
  have hts := atoms_spec (ws := wsL_safeDirections) B.pre
  have hown : s.vm.findClass RL = some m.cls := findClass_of_methodNamed B.named
  have hlocks := B.notSynchronized
  have hAL : ∀ z9 : Nat, cA [(x, .inr (2, [.ref rg, .ref tr, .ref pn, .int (nI d), .int (nI r), .int ld, .int li, .int tl, .int mo])), (rg, .inr (1, [.ref ro, .ref rl, .int pl])), (ro, .inl (cI, 4, .inl fo)), (rl, .inl (cI, 28, .inl (sh fl))), (qo, .inl (cJ, 1, .inr (.inl g0)))] z9 → L0 ≤ z9 := fun z9 ⟨k9, e9, h9⟩ => hD0.2 k9 (z9, e9) h9
  have hD : va_D (cA [(x, .inr (2, [.ref rg, .ref tr, .ref pn, .int (nI d), .int (nI r), .int ld, .int li, .int tl, .int mo])), (rg, .inr (1, [.ref ro, .ref rl, .int pl])), (ro, .inl (cI, 4, .inl fo)), (rl, .inl (cI, 28, .inl (sh fl))), (qo, .inl (cJ, 1, .inr (.inl g0)))]) [(x, .inr (2, [.ref rg, .ref tr, .ref pn, .int (nI d), .int (nI r), .int ld, .int li, .int tl, .int mo])), (rg, .inr (1, [.ref ro, .ref rl, .int pl])), (ro, .inl (cI, 4, .inl fo)), (rl, .inl (cI, 28, .inl (sh fl))), (qo, .inl (cJ, 1, .inr (.inl g0)))] := ⟨hD0.1, fun k9 z9 h9 => cA_of h9⟩
  generalize hAe : cA [(x, .inr (2, [.ref rg, .ref tr, .ref pn, .int (nI d), .int (nI r), .int ld, .int li, .int tl, .int mo])), (rg, .inr (1, [.ref ro, .ref rl, .int pl])), (ro, .inl (cI, 4, .inl fo)), (rl, .inl (cI, 28, .inl (sh fl))), (qo, .inl (cJ, 1, .inr (.inl g0)))] = A at hD hAL ⊢
  have hS : va_S A s.heap s.heap [] := va_S.rf
  have hl := lv_entry ([.ref x, .int u, .int z, .ref qo]) (n := 5) (Nat.le_of_ble_eq_true rfl)
  rw [lg_entry_eq]
  generalize (lg_sl ([.ref x, .int u, .int z, .ref qo]) ++ List.replicate (5 - (lg_sl ([.ref x, .int u, .int z, .ref qo])).length) Slot.unset).toArray = ls at hl ⊢
  have hl : lv_has ls 5 [(0, .ref x), (1, .int u), (2, .int z), (3, .ref qo)] := hl
  have htb := vx_table (x := yL_safeDirections) B (hts (.codeWith yL_safeDirections cL_safeDirections 5 (some .int) [(0, 10, 13, 13)]) (by decide +kernel))
  refine lv_aload_n hx hb dL_safeDirections_0 rfl (lv_at hl 3 rfl) ?_
  refine lv_iconst (v := 0) hx hb dL_safeDirections_1 (by decide) ?_
  refine lv_aload_n hx hb dL_safeDirections_2 rfl (lv_at hl 0 rfl) ?_
  refine lv_iload_n hx hb dL_safeDirections_3 rfl (lv_at hl 1 rfl) ?_
  refine lv_iload_n hx hb dL_safeDirections_4 rfl (lv_at hl 2 rfl) ?_
  have hPc := hP.sub (ws' := [(x, .inr (2, [.ref rg, .ref tr, .ref pn, .int (nI d), .int (nI r), .int ld, .int li, .int tl, .int mo])), (rg, .inr (1, [.ref ro, .ref rl, .int pl])), (ro, .inl (cI, 4, .inl fo)), (rl, .inl (cI, 28, .inl (sh fl)))]) [0, 1, 2, 3] rfl
  have hDc : va_D (fun q : Nat => L0 ≤ q) [(x, .inr (2, [.ref rg, .ref tr, .ref pn, .int (nI d), .int (nI r), .int ld, .int li, .int tl, .int mo])), (rg, .inr (1, [.ref ro, .ref rl, .int pl])), (ro, .inl (cI, 4, .inl fo)), (rl, .inl (cI, 28, .inl (sh fl)))] := (hD.sub (ws' := [(x, .inr (2, [.ref rg, .ref tr, .ref pn, .int (nI d), .int (nI r), .int ld, .int li, .int tl, .int mo])), (rg, .inr (1, [.ref ro, .ref rl, .int pl])), (ro, .inl (cI, 4, .inl fo)), (rl, .inl (cI, 28, .inl (sh fl)))]) [0, 1, 2, 3] (by decide) rfl).weaken (fun _ z9 _ h9 => hAL _ h9)
  have hKc := hK.sub (tys' := [(cI, .int)]) [0] rfl
  refine c_callT (vx_runV (As := [.int u, .int z]) (rest := [.int 0, .ref qo]) ⟨hx, hb, hml, hown, hts⟩ (k_safeDirections l hfl D L0 cI x rg tr pn ro rl d r ld li tl mo pl fo fl u z) (cwV 2 hts gL_safeDirections_X2_safeDirections rfl rfl rfl (by decide +kernel) ⟨Nat.le_of_ble_eq_true rfl, Nat.le_of_ble_eq_true rfl⟩) ⟨cP_blind, va_recv hKc hPc (ci := 2) (q0 := 0) rfl rfl, cP_of hPc hKc hDc (kE_at hE0 hAL hS)⟩ rfl rfl hl.1 rfl (lv_room (Nat.le_of_ble_eq_true rfl)) dL_safeDirections_5 ⟨Nat.le_of_ble_eq_true rfl, Nat.le_of_ble_eq_true rfl⟩) hS (fun E ce q9 H1 hE hz1 hk1 hS hce hcv hcl => ?_) (fun hk0 => ?_)
  · have hP := c_PX hP hk1
    rcases hE with ⟨rfl, hk⟩
    · have hkn : ¬ k1 (inR u 0 60 ∧ inR z 3 30) = 0 := by rw [hk]; decide
      refine c_catch (L0 := L0) hown hE0 (Or.inl rfl) [] ⟨0, 10, 13, 13⟩ [] (htb.trans rfl) (fun z9 h9 => absurd h9 List.not_mem_nil) (by decide) (by decide) (hts (.classLink RL 13 xIAE) (by decide +kernel)) hce hcv hcl ?_
      show W _ _ _ _ _ _ _ _ _ _ _ _ _ _ _ (F0 m 13 ls [.ref q9])
      refine lv_astore (lv' := [(4, .ref q9), (0, .ref x), (1, .int u), (2, .int z), (3, .ref qo)]) hx hb dL_safeDirections_13 hl (by decide) rfl (fun ls hl => ?_)
      refine lv_iconst (v := 1) hx hb dL_safeDirections_15 (by decide) ?_
      refine W.widen (k := 2) (n := 12) (Nat.le_of_ble_eq_true rfl) (Nat.le_of_ble_eq_true rfl) ?_
      exact W.iret (v := 1) hx hb hRt (fun t ht hW => ⟨⟨by rw [hk], by rw [ht]; exact ⟨g0, (fun h => absurd h hkn), hP⟩⟩, hS.F ht⟩) hS.2.2 dL_safeDirections_16
  · show W _ _ _ _ _ _ _ _ _ _ _ _ _ _ _ (F0 m 8 ls [.int (nI (fb_ct (fun k => safS fo fl pl u k z.toNatClampNeg) 8)), .int 0, .ref qo])
    refine lv_i2l hx hb dL_safeDirections_8 rfl ?_
    refine va_last hx hb hK hP hD hS 4 1 rfl rfl (vp_in_nI (n := 0) (by decide) (by decide)) dL_safeDirections_9 (fun H locs hP hD hS => ?_)
    have hP : va_P D vwCl [(x, .inr (2, [.ref rg, .ref tr, .ref pn, .int (nI d), .int (nI r), .int ld, .int li, .int tl, .int mo])), (rg, .inr (1, [.ref ro, .ref rl, .int pl])), (ro, .inl (cI, 4, .inl fo)), (rl, .inl (cI, 28, .inl (sh fl))), (qo, .inl (cJ, 1, .inr (.inl (vp_updL g0 0 ((nI (fb_ct (fun k => safS fo fl pl u k z.toNatClampNeg) 8)).toInt64)))))] H := hP
    have hD : va_D A [(x, .inr (2, [.ref rg, .ref tr, .ref pn, .int (nI d), .int (nI r), .int ld, .int li, .int tl, .int mo])), (rg, .inr (1, [.ref ro, .ref rl, .int pl])), (ro, .inl (cI, 4, .inl fo)), (rl, .inl (cI, 28, .inl (sh fl))), (qo, .inl (cJ, 1, .inr (.inl (vp_updL g0 0 ((nI (fb_ct (fun k => safS fo fl pl u k z.toNatClampNeg) 8)).toInt64)))))] := hD
    refine lv_goto (tgt := 17) hx hb dL_safeDirections_10 (by decide) ?_
    refine lv_iconst (v := 0) hx hb dL_safeDirections_17 (by decide) ?_
    refine W.widen (k := 2) (n := 12) (Nat.le_of_ble_eq_true rfl) (Nat.le_of_ble_eq_true rfl) ?_
    exact W.iret (v := 0) hx hb hRt (fun t ht hW => ⟨⟨by rw [hk0], by rw [ht]; exact ⟨vp_updL g0 0 ((nI (fb_ct (fun k => safS fo fl pl u k z.toNatClampNeg) 8)).toInt64), (fun _ => pk_uLs), hP⟩⟩, hS.F ht⟩) hS.2.2 dL_safeDirections_18
set_option maxHeartbeats 4000000 in
set_option maxRecDepth 100000 in
/-- the law of platesNeeded -/
theorem w_platesNeeded (l : Launch) (hfl : l.stackTraces = false) (D : va_G) (L0 : Nat) (cI cJ : ClassId) (x rg tr pn ro rl d r : Nat) (ld li tl mo pl : Int32) (fo fl : Nat → Int32) (t0 t1 : Nat) (jp : Int32) (jo jl : Nat → Int32) (qo : Nat) (g0 : Nat → Int64) (u : Int32) (v : Int32) (z : Int32) : Met l yL_platesNeeded wsL_platesNeeded ({ frames := 8, cells := 3, slots := 18, locals := 127 }) (cP L0 D [(cI, .int), (cJ, .long)] [(x, .inr (2, [.ref rg, .ref tr, .ref pn, .int (nI d), .int (nI r), .int ld, .int li, .int tl, .int mo])), (rg, .inr (1, [.ref ro, .ref rl, .int pl])), (ro, .inl (cI, 4, .inl fo)), (rl, .inl (cI, 28, .inl (sh fl))), (tr, .inr (1, [.ref t0, .ref t1, .int jp])), (t0, .inl (cI, 4, .inl jo)), (t1, .inl (cI, 28, .inl jl)), (qo, .inl (cJ, 1, .inr (.inl g0)))] [.ref x, .int u, .int v, .int z, .ref qo]) (cB (some (.int (k2 (inR v 0 7) (inR u 0 60 ∧ inR z 3 30)))) (fun H => ∃ g9 : Nat → Int64, ∃ (p9 : Int32) (o9 l9 : Nat → Int32), (k2 (inR v 0 7) (inR u 0 60 ∧ inR z 3 30) = 0 → g9 0 = (pnN (fun k => safS fo fl (nI k) u v.toNatClampNeg z.toNatClampNeg) 13 0).toInt64) ∧ va_P D vwCl [(x, .inr (2, [.ref rg, .ref tr, .ref pn, .int (nI d), .int (nI r), .int ld, .int li, .int tl, .int mo])), (rg, .inr (1, [.ref ro, .ref rl, .int pl])), (ro, .inl (cI, 4, .inl fo)), (rl, .inl (cI, 28, .inl (sh fl))), (tr, .inr (1, [.ref t0, .ref t1, .int p9])), (t0, .inl (cI, 4, .inl o9)), (t1, .inl (cI, 28, .inl l9)), (qo, .inl (cJ, 1, .inr (.inl g9)))] H) (cA [(x, .inr (2, [.ref rg, .ref tr, .ref pn, .int (nI d), .int (nI r), .int ld, .int li, .int tl, .int mo])), (rg, .inr (1, [.ref ro, .ref rl, .int pl])), (ro, .inl (cI, 4, .inl fo)), (rl, .inl (cI, 28, .inl (sh fl))), (tr, .inr (1, [.ref t0, .ref t1, .int jp])), (t0, .inl (cI, 4, .inl jo)), (t1, .inl (cI, 28, .inl jl)), (qo, .inl (cJ, 1, .inr (.inl g0)))])) 3 18 (cA [(x, .inr (2, [.ref rg, .ref tr, .ref pn, .int (nI d), .int (nI r), .int ld, .int li, .int tl, .int mo])), (rg, .inr (1, [.ref ro, .ref rl, .int pl])), (ro, .inl (cI, 4, .inl fo)), (rl, .inl (cI, 28, .inl (sh fl))), (tr, .inr (1, [.ref t0, .ref t1, .int jp])), (t0, .inl (cI, 4, .inl jo)), (t1, .inl (cI, 28, .inl jl)), (qo, .inl (cJ, 1, .inr (.inl g0)))]) := by
  refine c_ofWH (cc := cL_platesNeeded) (maxL := 6) (ret := (some .int)) (by decide) rfl ?_
  intro p e s m args below meth c s₁ B hml hv
  obtain ⟨rfl, hP, hK, hD0, hE0⟩ := hv
  have hx := B.exec
  have hb := B.bytes
  have hRt := B.returns
  have hts := atoms_spec (ws := wsL_platesNeeded) B.pre
  have hown : s.vm.findClass RL = some m.cls := findClass_of_methodNamed B.named
  have hlocks := B.notSynchronized
  have hAL : ∀ z9 : Nat, cA [(x, .inr (2, [.ref rg, .ref tr, .ref pn, .int (nI d), .int (nI r), .int ld, .int li, .int tl, .int mo])), (rg, .inr (1, [.ref ro, .ref rl, .int pl])), (ro, .inl (cI, 4, .inl fo)), (rl, .inl (cI, 28, .inl (sh fl))), (tr, .inr (1, [.ref t0, .ref t1, .int jp])), (t0, .inl (cI, 4, .inl jo)), (t1, .inl (cI, 28, .inl jl)), (qo, .inl (cJ, 1, .inr (.inl g0)))] z9 → L0 ≤ z9 := fun z9 ⟨k9, e9, h9⟩ => hD0.2 k9 (z9, e9) h9
  have hD : va_D (cA [(x, .inr (2, [.ref rg, .ref tr, .ref pn, .int (nI d), .int (nI r), .int ld, .int li, .int tl, .int mo])), (rg, .inr (1, [.ref ro, .ref rl, .int pl])), (ro, .inl (cI, 4, .inl fo)), (rl, .inl (cI, 28, .inl (sh fl))), (tr, .inr (1, [.ref t0, .ref t1, .int jp])), (t0, .inl (cI, 4, .inl jo)), (t1, .inl (cI, 28, .inl jl)), (qo, .inl (cJ, 1, .inr (.inl g0)))]) [(x, .inr (2, [.ref rg, .ref tr, .ref pn, .int (nI d), .int (nI r), .int ld, .int li, .int tl, .int mo])), (rg, .inr (1, [.ref ro, .ref rl, .int pl])), (ro, .inl (cI, 4, .inl fo)), (rl, .inl (cI, 28, .inl (sh fl))), (tr, .inr (1, [.ref t0, .ref t1, .int jp])), (t0, .inl (cI, 4, .inl jo)), (t1, .inl (cI, 28, .inl jl)), (qo, .inl (cJ, 1, .inr (.inl g0)))] := ⟨hD0.1, fun k9 z9 h9 => cA_of h9⟩
  generalize hAe : cA [(x, .inr (2, [.ref rg, .ref tr, .ref pn, .int (nI d), .int (nI r), .int ld, .int li, .int tl, .int mo])), (rg, .inr (1, [.ref ro, .ref rl, .int pl])), (ro, .inl (cI, 4, .inl fo)), (rl, .inl (cI, 28, .inl (sh fl))), (tr, .inr (1, [.ref t0, .ref t1, .int jp])), (t0, .inl (cI, 4, .inl jo)), (t1, .inl (cI, 28, .inl jl)), (qo, .inl (cJ, 1, .inr (.inl g0)))] = A at hD hAL ⊢
  have hS : va_S A s.heap s.heap [] := va_S.rf
  have hl := lv_entry ([.ref x, .int u, .int v, .int z, .ref qo]) (n := 6) (Nat.le_of_ble_eq_true rfl)
  rw [lg_entry_eq]
  generalize (lg_sl ([.ref x, .int u, .int v, .int z, .ref qo]) ++ List.replicate (6 - (lg_sl ([.ref x, .int u, .int v, .int z, .ref qo])).length) Slot.unset).toArray = ls at hl ⊢
  have hl : lv_has ls 6 [(0, .ref x), (1, .int u), (2, .int v), (3, .int z), (4, .ref qo)] := hl
  have htb := vx_table (x := yL_platesNeeded) B (hts (.codeWith yL_platesNeeded cL_platesNeeded 6 (some .int) [(0, 12, 15, 21), (0, 12, 19, 13)]) (by decide +kernel))
  refine lv_aload hx hb dL_platesNeeded_0 (lv_at hl 4 rfl) ?_
  refine lv_iconst (v := 0) hx hb dL_platesNeeded_2 (by decide) ?_
  refine lv_aload_n hx hb dL_platesNeeded_3 rfl (lv_at hl 0 rfl) ?_
  refine lv_iload_n hx hb dL_platesNeeded_4 rfl (lv_at hl 1 rfl) ?_
  refine lv_iload_n hx hb dL_platesNeeded_5 rfl (lv_at hl 2 rfl) ?_
  refine lv_iload_n hx hb dL_platesNeeded_6 rfl (lv_at hl 3 rfl) ?_
  have hPc := hP.sub (ws' := [(x, .inr (2, [.ref rg, .ref tr, .ref pn, .int (nI d), .int (nI r), .int ld, .int li, .int tl, .int mo])), (rg, .inr (1, [.ref ro, .ref rl, .int pl])), (ro, .inl (cI, 4, .inl fo)), (rl, .inl (cI, 28, .inl (sh fl))), (tr, .inr (1, [.ref t0, .ref t1, .int jp])), (t0, .inl (cI, 4, .inl jo)), (t1, .inl (cI, 28, .inl jl))]) [0, 1, 2, 3, 4, 5, 6] rfl
  have hDc : va_D (fun q : Nat => L0 ≤ q) [(x, .inr (2, [.ref rg, .ref tr, .ref pn, .int (nI d), .int (nI r), .int ld, .int li, .int tl, .int mo])), (rg, .inr (1, [.ref ro, .ref rl, .int pl])), (ro, .inl (cI, 4, .inl fo)), (rl, .inl (cI, 28, .inl (sh fl))), (tr, .inr (1, [.ref t0, .ref t1, .int jp])), (t0, .inl (cI, 4, .inl jo)), (t1, .inl (cI, 28, .inl jl))] := (hD.sub (ws' := [(x, .inr (2, [.ref rg, .ref tr, .ref pn, .int (nI d), .int (nI r), .int ld, .int li, .int tl, .int mo])), (rg, .inr (1, [.ref ro, .ref rl, .int pl])), (ro, .inl (cI, 4, .inl fo)), (rl, .inl (cI, 28, .inl (sh fl))), (tr, .inr (1, [.ref t0, .ref t1, .int jp])), (t0, .inl (cI, 4, .inl jo)), (t1, .inl (cI, 28, .inl jl))]) [0, 1, 2, 3, 4, 5, 6] (by decide) rfl).weaken (fun _ z9 _ h9 => hAL _ h9)
  have hKc := hK.sub (tys' := [(cI, .int)]) [0] rfl
  refine c_callX (vx_runV (As := [.int u, .int v, .int z]) (rest := [.int 0, .ref qo]) ⟨hx, hb, hml, hown, hts⟩ (k_platesNeeded l hfl D L0 cI x rg tr pn ro rl d r ld li tl mo pl fo fl t0 t1 jp jo jl u v z) (cwV 3 hts gL_platesNeeded_X2_platesNeeded rfl rfl rfl (by decide +kernel) ⟨Nat.le_of_ble_eq_true rfl, Nat.le_of_ble_eq_true rfl⟩) ⟨cP_blind, va_recv hKc hPc (ci := 2) (q0 := 0) rfl rfl, cP_of hPc hKc hDc (kE_at hE0 hAL hS)⟩ rfl rfl hl.1 rfl (lv_room (Nat.le_of_ble_eq_true rfl)) dL_platesNeeded_7 ⟨Nat.le_of_ble_eq_true rfl, Nat.le_of_ble_eq_true rfl⟩) hS (fun z9 _ ⟨k9, e9, h9⟩ => (hD.sub (ws' := [(x, .inr (2, [.ref rg, .ref tr, .ref pn, .int (nI d), .int (nI r), .int ld, .int li, .int tl, .int mo])), (rg, .inr (1, [.ref ro, .ref rl, .int pl])), (ro, .inl (cI, 4, .inl fo)), (rl, .inl (cI, 28, .inl (sh fl))), (tr, .inr (1, [.ref t0, .ref t1, .int jp])), (t0, .inl (cI, 4, .inl jo)), (t1, .inl (cI, 28, .inl jl))]) [0, 1, 2, 3, 4, 5, 6] (by decide) rfl).2 k9 (z9, e9) h9) (fun z9 ⟨k9, e9, h9⟩ => (hD.sub (ws' := [(x, .inr (2, [.ref rg, .ref tr, .ref pn, .int (nI d), .int (nI r), .int ld, .int li, .int tl, .int mo])), (rg, .inr (1, [.ref ro, .ref rl, .int pl])), (ro, .inl (cI, 4, .inl fo)), (rl, .inl (cI, 28, .inl (sh fl))), (tr, .inr (1, [.ref t0, .ref t1, .int jp])), (t0, .inl (cI, 4, .inl jo)), (t1, .inl (cI, 28, .inl jl))]) [0, 1, 2, 3, 4, 5, 6] (by decide) rfl).2 k9 (z9, e9) h9) (fun z9 _ ⟨k9, e9, h9⟩ => (hD.sub (ws' := [(x, .inr (2, [.ref rg, .ref tr, .ref pn, .int (nI d), .int (nI r), .int ld, .int li, .int tl, .int mo])), (rg, .inr (1, [.ref ro, .ref rl, .int pl])), (ro, .inl (cI, 4, .inl fo)), (rl, .inl (cI, 28, .inl (sh fl))), (tr, .inr (1, [.ref t0, .ref t1, .int jp])), (t0, .inl (cI, 4, .inl jo)), (t1, .inl (cI, 28, .inl jl))]) [0, 1, 2, 3, 4, 5, 6] (by decide) rfl).2 k9 (z9, e9) h9) (fun E ce q9 H1 locs hE hB hz1 hk1 hS hce hcv hcl => ?_) (fun H1 locs hB hz1 hk1 hS => ?_)
  · obtain ⟨p9, o9, l9, hB⟩ := hB
    obtain ⟨hP, hD⟩ := c_join (ws' := [(x, .inr (2, [.ref rg, .ref tr, .ref pn, .int (nI d), .int (nI r), .int ld, .int li, .int tl, .int mo])), (rg, .inr (1, [.ref ro, .ref rl, .int pl])), (ro, .inl (cI, 4, .inl fo)), (rl, .inl (cI, 28, .inl (sh fl))), (tr, .inr (1, [.ref t0, .ref t1, .int p9])), (t0, .inl (cI, 4, .inl o9)), (t1, .inl (cI, 28, .inl l9)), (qo, .inl (cJ, 1, .inr (.inl g0)))]) (wr := [(qo, .inl (cJ, 1, .inr (.inl g0)))]) (w1 := [(x, .inr (2, [.ref rg, .ref tr, .ref pn, .int (nI d), .int (nI r), .int ld, .int li, .int tl, .int mo])), (rg, .inr (1, [.ref ro, .ref rl, .int pl])), (ro, .inl (cI, 4, .inl fo)), (rl, .inl (cI, 28, .inl (sh fl))), (tr, .inr (1, [.ref t0, .ref t1, .int p9])), (t0, .inl (cI, 4, .inl o9)), (t1, .inl (cI, 28, .inl l9))]) hP hD [0, 1, 2, 3, 4, 5, 6] [7] [1, 2, 3, 4, 5, 6, 7, 0] rfl rfl (by decide) (by decide) hk1 hB rfl rfl rfl (by decide)
    generalize H1 = H at hP hS hce ⊢
    rcases hE with ⟨rfl, hk⟩ | ⟨rfl, hk⟩
    · have hkn : ¬ k2 (inR v 0 7) (inR u 0 60 ∧ inR z 3 30) = 0 := by rw [hk]; decide
      refine c_catch (L0 := L0) hown hE0 (Or.inr (Or.inr rfl)) [] ⟨0, 12, 15, 21⟩ [⟨0, 12, 19, 13⟩] (htb.trans rfl) (fun z9 h9 => absurd h9 List.not_mem_nil) (by decide) (by decide) (hts (.classLink RL 21 xIOB) (by decide +kernel)) hce hcv hcl ?_
      show W _ _ _ _ _ _ _ _ _ _ _ _ _ _ _ (F0 m 15 ls [.ref q9])
      refine lv_astore (lv' := [(5, .ref q9), (0, .ref x), (1, .int u), (2, .int v), (3, .int z), (4, .ref qo)]) hx hb dL_platesNeeded_15 hl (by decide) rfl (fun ls hl => ?_)
      refine lv_iconst (v := 1) hx hb dL_platesNeeded_17 (by decide) ?_
      refine W.widen (k := 3) (n := 18) (Nat.le_of_ble_eq_true rfl) (Nat.le_of_ble_eq_true rfl) ?_
      exact W.iret (v := 1) hx hb hRt (fun t ht hW => ⟨⟨by rw [hk], by rw [ht]; exact ⟨g0, _, _, _, (fun h => absurd h hkn), hP⟩⟩, hS.F ht⟩) hS.2.2 dL_platesNeeded_18
    · have hkn : ¬ k2 (inR v 0 7) (inR u 0 60 ∧ inR z 3 30) = 0 := by rw [hk]; decide
      refine c_catch (L0 := L0) hown hE0 (Or.inl rfl) [⟨0, 12, 15, 21⟩] ⟨0, 12, 19, 13⟩ [] (htb.trans rfl) (fun z9 h9 => by
            simp only [List.mem_cons, List.not_mem_nil, or_false] at h9
            rcases h9 with rfl
            · exact ⟨by decide, xIOB, hts (.classLink RL 21 xIOB) (by decide +kernel), (kE_nc hE0).2.1⟩) (by decide) (by decide) (hts (.classLink RL 13 xIAE) (by decide +kernel)) hce hcv hcl ?_
      show W _ _ _ _ _ _ _ _ _ _ _ _ _ _ _ (F0 m 19 ls [.ref q9])
      refine lv_astore (lv' := [(5, .ref q9), (0, .ref x), (1, .int u), (2, .int v), (3, .int z), (4, .ref qo)]) hx hb dL_platesNeeded_19 hl (by decide) rfl (fun ls hl => ?_)
      refine lv_iconst (v := 2) hx hb dL_platesNeeded_21 (by decide) ?_
      refine W.widen (k := 3) (n := 18) (Nat.le_of_ble_eq_true rfl) (Nat.le_of_ble_eq_true rfl) ?_
      exact W.iret (v := 2) hx hb hRt (fun t ht hW => ⟨⟨by rw [hk], by rw [ht]; exact ⟨g0, _, _, _, (fun h => absurd h hkn), hP⟩⟩, hS.F ht⟩) hS.2.2 dL_platesNeeded_22
  · obtain ⟨hk0, p9, o9, l9, hB⟩ := hB
    obtain ⟨hP, hD⟩ := c_join (ws' := [(x, .inr (2, [.ref rg, .ref tr, .ref pn, .int (nI d), .int (nI r), .int ld, .int li, .int tl, .int mo])), (rg, .inr (1, [.ref ro, .ref rl, .int pl])), (ro, .inl (cI, 4, .inl fo)), (rl, .inl (cI, 28, .inl (sh fl))), (tr, .inr (1, [.ref t0, .ref t1, .int p9])), (t0, .inl (cI, 4, .inl o9)), (t1, .inl (cI, 28, .inl l9)), (qo, .inl (cJ, 1, .inr (.inl g0)))]) (wr := [(qo, .inl (cJ, 1, .inr (.inl g0)))]) (w1 := [(x, .inr (2, [.ref rg, .ref tr, .ref pn, .int (nI d), .int (nI r), .int ld, .int li, .int tl, .int mo])), (rg, .inr (1, [.ref ro, .ref rl, .int pl])), (ro, .inl (cI, 4, .inl fo)), (rl, .inl (cI, 28, .inl (sh fl))), (tr, .inr (1, [.ref t0, .ref t1, .int p9])), (t0, .inl (cI, 4, .inl o9)), (t1, .inl (cI, 28, .inl l9))]) hP hD [0, 1, 2, 3, 4, 5, 6] [7] [1, 2, 3, 4, 5, 6, 7, 0] rfl rfl (by decide) (by decide) hk1 hB rfl rfl rfl (by decide)
    generalize H1 = H at hP hS ⊢
    show W _ _ _ _ _ _ _ _ _ _ _ _ _ _ _ (F0 m 10 ls [.int (pnN (fun k => safS fo fl (nI k) u v.toNatClampNeg z.toNatClampNeg) 13 0), .int 0, .ref qo])
    refine lv_i2l hx hb dL_platesNeeded_10 rfl ?_
    refine va_last hx hb hK hP hD hS 7 1 rfl rfl (vp_in_nI (n := 0) (by decide) (by decide)) dL_platesNeeded_11 (fun H locs hP hD hS => ?_)
    have hP : va_P D vwCl [(x, .inr (2, [.ref rg, .ref tr, .ref pn, .int (nI d), .int (nI r), .int ld, .int li, .int tl, .int mo])), (rg, .inr (1, [.ref ro, .ref rl, .int pl])), (ro, .inl (cI, 4, .inl fo)), (rl, .inl (cI, 28, .inl (sh fl))), (tr, .inr (1, [.ref t0, .ref t1, .int p9])), (t0, .inl (cI, 4, .inl o9)), (t1, .inl (cI, 28, .inl l9)), (qo, .inl (cJ, 1, .inr (.inl (vp_updL g0 0 ((pnN (fun k => safS fo fl (nI k) u v.toNatClampNeg z.toNatClampNeg) 13 0).toInt64)))))] H := hP
    have hD : va_D A [(x, .inr (2, [.ref rg, .ref tr, .ref pn, .int (nI d), .int (nI r), .int ld, .int li, .int tl, .int mo])), (rg, .inr (1, [.ref ro, .ref rl, .int pl])), (ro, .inl (cI, 4, .inl fo)), (rl, .inl (cI, 28, .inl (sh fl))), (tr, .inr (1, [.ref t0, .ref t1, .int p9])), (t0, .inl (cI, 4, .inl o9)), (t1, .inl (cI, 28, .inl l9)), (qo, .inl (cJ, 1, .inr (.inl (vp_updL g0 0 ((pnN (fun k => safS fo fl (nI k) u v.toNatClampNeg z.toNatClampNeg) 13 0).toInt64)))))] := hD
    refine lv_goto (tgt := 23) hx hb dL_platesNeeded_12 (by decide) ?_
    refine lv_iconst (v := 0) hx hb dL_platesNeeded_23 (by decide) ?_
    refine W.widen (k := 3) (n := 18) (Nat.le_of_ble_eq_true rfl) (Nat.le_of_ble_eq_true rfl) ?_
    exact W.iret (v := 0) hx hb hRt (fun t ht hW => ⟨⟨by rw [hk0], by rw [ht]; exact ⟨vp_updL g0 0 ((pnN (fun k => safS fo fl (nI k) u v.toNatClampNeg z.toNatClampNeg) 13 0).toInt64), _, _, _, (fun _ => pk_uLs), hP⟩⟩, hS.F ht⟩) hS.2.2 dL_platesNeeded_24
set_option maxHeartbeats 4000000 in
set_option maxRecDepth 100000 in
/-- the law of fewestMoves -/
theorem w_fewestMoves (l : Launch) (hfl : l.stackTraces = false) (D : va_G) (L0 : Nat) (cI cJ : ClassId) (x rg tr pn ro rl d r : Nat) (ld li tl mo pl : Int32) (fo fl : Nat → Int32) (pm pf : Nat) (jn : Int32) (jm jf : Nat → Int32) (qo : Nat) (g0 : Nat → Int64) (u : Int32) (v : Int32) (z : Int32) (hd : d < 8) (hr : 3 ≤ r ∧ r ≤ 30) : Met l yL_fewestMoves wsL_fewestMoves ({ frames := 8, cells := 3, slots := 18, locals := 171 }) (cP L0 D [(cI, .int), (cJ, .long)] [(x, .inr (2, [.ref rg, .ref tr, .ref pn, .int (nI d), .int (nI r), .int ld, .int li, .int tl, .int mo])), (rg, .inr (1, [.ref ro, .ref rl, .int pl])), (ro, .inl (cI, 4, .inl fo)), (rl, .inl (cI, 28, .inl (sh fl))), (pn, .inr (0, [.ref pm, .ref pf, .int jn])), (pm, .inl (cI, 224, .inl jm)), (pf, .inl (cI, 224, .inl jf)), (qo, .inl (cJ, 1, .inr (.inl g0)))] [.ref x, .int u, .int v, .int z, .ref qo]) (cB (some (.int (k2 (inR v 0 7) (inR u 0 60 ∧ inR z 3 30)))) (fun H => ∃ g9 : Nat → Int64, ∃ (n9 : Int32) (m9 f9 : Nat → Int32), (k2 (inR v 0 7) (inR u 0 60 ∧ inR z 3 30) = 0 → g9 0 = ((goS (safS fo fl pl u) d r).1 (8 * z.toNatClampNeg + v.toNatClampNeg)).toInt64) ∧ va_P D vwCl [(x, .inr (2, [.ref rg, .ref tr, .ref pn, .int (nI d), .int (nI r), .int ld, .int li, .int tl, .int mo])), (rg, .inr (1, [.ref ro, .ref rl, .int pl])), (ro, .inl (cI, 4, .inl fo)), (rl, .inl (cI, 28, .inl (sh fl))), (pn, .inr (0, [.ref pm, .ref pf, .int n9])), (pm, .inl (cI, 224, .inl m9)), (pf, .inl (cI, 224, .inl f9)), (qo, .inl (cJ, 1, .inr (.inl g9)))] H) (cA [(x, .inr (2, [.ref rg, .ref tr, .ref pn, .int (nI d), .int (nI r), .int ld, .int li, .int tl, .int mo])), (rg, .inr (1, [.ref ro, .ref rl, .int pl])), (ro, .inl (cI, 4, .inl fo)), (rl, .inl (cI, 28, .inl (sh fl))), (pn, .inr (0, [.ref pm, .ref pf, .int jn])), (pm, .inl (cI, 224, .inl jm)), (pf, .inl (cI, 224, .inl jf)), (qo, .inl (cJ, 1, .inr (.inl g0)))])) 3 18 (cA [(x, .inr (2, [.ref rg, .ref tr, .ref pn, .int (nI d), .int (nI r), .int ld, .int li, .int tl, .int mo])), (rg, .inr (1, [.ref ro, .ref rl, .int pl])), (ro, .inl (cI, 4, .inl fo)), (rl, .inl (cI, 28, .inl (sh fl))), (pn, .inr (0, [.ref pm, .ref pf, .int jn])), (pm, .inl (cI, 224, .inl jm)), (pf, .inl (cI, 224, .inl jf)), (qo, .inl (cJ, 1, .inr (.inl g0)))]) := by
  refine c_ofWH (cc := cL_fewestMoves) (maxL := 6) (ret := (some .int)) (by decide) rfl ?_
  intro p e s m args below meth c s₁ B hml hv
  obtain ⟨rfl, hP, hK, hD0, hE0⟩ := hv
  have hx := B.exec
  have hb := B.bytes
  have hRt := B.returns
  have hts := atoms_spec (ws := wsL_fewestMoves) B.pre
  have hown : s.vm.findClass RL = some m.cls := findClass_of_methodNamed B.named
  have hlocks := B.notSynchronized
  have hAL : ∀ z9 : Nat, cA [(x, .inr (2, [.ref rg, .ref tr, .ref pn, .int (nI d), .int (nI r), .int ld, .int li, .int tl, .int mo])), (rg, .inr (1, [.ref ro, .ref rl, .int pl])), (ro, .inl (cI, 4, .inl fo)), (rl, .inl (cI, 28, .inl (sh fl))), (pn, .inr (0, [.ref pm, .ref pf, .int jn])), (pm, .inl (cI, 224, .inl jm)), (pf, .inl (cI, 224, .inl jf)), (qo, .inl (cJ, 1, .inr (.inl g0)))] z9 → L0 ≤ z9 := fun z9 ⟨k9, e9, h9⟩ => hD0.2 k9 (z9, e9) h9
  have hD : va_D (cA [(x, .inr (2, [.ref rg, .ref tr, .ref pn, .int (nI d), .int (nI r), .int ld, .int li, .int tl, .int mo])), (rg, .inr (1, [.ref ro, .ref rl, .int pl])), (ro, .inl (cI, 4, .inl fo)), (rl, .inl (cI, 28, .inl (sh fl))), (pn, .inr (0, [.ref pm, .ref pf, .int jn])), (pm, .inl (cI, 224, .inl jm)), (pf, .inl (cI, 224, .inl jf)), (qo, .inl (cJ, 1, .inr (.inl g0)))]) [(x, .inr (2, [.ref rg, .ref tr, .ref pn, .int (nI d), .int (nI r), .int ld, .int li, .int tl, .int mo])), (rg, .inr (1, [.ref ro, .ref rl, .int pl])), (ro, .inl (cI, 4, .inl fo)), (rl, .inl (cI, 28, .inl (sh fl))), (pn, .inr (0, [.ref pm, .ref pf, .int jn])), (pm, .inl (cI, 224, .inl jm)), (pf, .inl (cI, 224, .inl jf)), (qo, .inl (cJ, 1, .inr (.inl g0)))] := ⟨hD0.1, fun k9 z9 h9 => cA_of h9⟩
  generalize hAe : cA [(x, .inr (2, [.ref rg, .ref tr, .ref pn, .int (nI d), .int (nI r), .int ld, .int li, .int tl, .int mo])), (rg, .inr (1, [.ref ro, .ref rl, .int pl])), (ro, .inl (cI, 4, .inl fo)), (rl, .inl (cI, 28, .inl (sh fl))), (pn, .inr (0, [.ref pm, .ref pf, .int jn])), (pm, .inl (cI, 224, .inl jm)), (pf, .inl (cI, 224, .inl jf)), (qo, .inl (cJ, 1, .inr (.inl g0)))] = A at hD hAL ⊢
  have hS : va_S A s.heap s.heap [] := va_S.rf
  have hl := lv_entry ([.ref x, .int u, .int v, .int z, .ref qo]) (n := 6) (Nat.le_of_ble_eq_true rfl)
  rw [lg_entry_eq]
  generalize (lg_sl ([.ref x, .int u, .int v, .int z, .ref qo]) ++ List.replicate (6 - (lg_sl ([.ref x, .int u, .int v, .int z, .ref qo])).length) Slot.unset).toArray = ls at hl ⊢
  have hl : lv_has ls 6 [(0, .ref x), (1, .int u), (2, .int v), (3, .int z), (4, .ref qo)] := hl
  have htb := vx_table (x := yL_fewestMoves) B (hts (.codeWith yL_fewestMoves cL_fewestMoves 6 (some .int) [(0, 12, 15, 21), (0, 12, 19, 13)]) (by decide +kernel))
  refine lv_aload hx hb dL_fewestMoves_0 (lv_at hl 4 rfl) ?_
  refine lv_iconst (v := 0) hx hb dL_fewestMoves_2 (by decide) ?_
  refine lv_aload_n hx hb dL_fewestMoves_3 rfl (lv_at hl 0 rfl) ?_
  refine lv_iload_n hx hb dL_fewestMoves_4 rfl (lv_at hl 1 rfl) ?_
  refine lv_iload_n hx hb dL_fewestMoves_5 rfl (lv_at hl 2 rfl) ?_
  refine lv_iload_n hx hb dL_fewestMoves_6 rfl (lv_at hl 3 rfl) ?_
  have hPc := hP.sub (ws' := [(x, .inr (2, [.ref rg, .ref tr, .ref pn, .int (nI d), .int (nI r), .int ld, .int li, .int tl, .int mo])), (rg, .inr (1, [.ref ro, .ref rl, .int pl])), (ro, .inl (cI, 4, .inl fo)), (rl, .inl (cI, 28, .inl (sh fl))), (pn, .inr (0, [.ref pm, .ref pf, .int jn])), (pm, .inl (cI, 224, .inl jm)), (pf, .inl (cI, 224, .inl jf))]) [0, 1, 2, 3, 4, 5, 6] rfl
  have hDc : va_D (fun q : Nat => L0 ≤ q) [(x, .inr (2, [.ref rg, .ref tr, .ref pn, .int (nI d), .int (nI r), .int ld, .int li, .int tl, .int mo])), (rg, .inr (1, [.ref ro, .ref rl, .int pl])), (ro, .inl (cI, 4, .inl fo)), (rl, .inl (cI, 28, .inl (sh fl))), (pn, .inr (0, [.ref pm, .ref pf, .int jn])), (pm, .inl (cI, 224, .inl jm)), (pf, .inl (cI, 224, .inl jf))] := (hD.sub (ws' := [(x, .inr (2, [.ref rg, .ref tr, .ref pn, .int (nI d), .int (nI r), .int ld, .int li, .int tl, .int mo])), (rg, .inr (1, [.ref ro, .ref rl, .int pl])), (ro, .inl (cI, 4, .inl fo)), (rl, .inl (cI, 28, .inl (sh fl))), (pn, .inr (0, [.ref pm, .ref pf, .int jn])), (pm, .inl (cI, 224, .inl jm)), (pf, .inl (cI, 224, .inl jf))]) [0, 1, 2, 3, 4, 5, 6] (by decide) rfl).weaken (fun _ z9 _ h9 => hAL _ h9)
  have hKc := hK.sub (tys' := [(cI, .int)]) [0] rfl
  refine c_callX (vx_runV (As := [.int u, .int v, .int z]) (rest := [.int 0, .ref qo]) ⟨hx, hb, hml, hown, hts⟩ (k_fewestMoves l hfl D L0 cI x rg tr pn ro rl d r ld li tl mo pl fo fl pm pf jn jm jf u v z hd hr) (cwV 3 hts gL_fewestMoves_X2_fewestMoves rfl rfl rfl (by decide +kernel) ⟨Nat.le_of_ble_eq_true rfl, Nat.le_of_ble_eq_true rfl⟩) ⟨cP_blind, va_recv hKc hPc (ci := 2) (q0 := 0) rfl rfl, cP_of hPc hKc hDc (kE_at hE0 hAL hS)⟩ rfl rfl hl.1 rfl (lv_room (Nat.le_of_ble_eq_true rfl)) dL_fewestMoves_7 ⟨Nat.le_of_ble_eq_true rfl, Nat.le_of_ble_eq_true rfl⟩) hS (fun z9 _ ⟨k9, e9, h9⟩ => (hD.sub (ws' := [(x, .inr (2, [.ref rg, .ref tr, .ref pn, .int (nI d), .int (nI r), .int ld, .int li, .int tl, .int mo])), (rg, .inr (1, [.ref ro, .ref rl, .int pl])), (ro, .inl (cI, 4, .inl fo)), (rl, .inl (cI, 28, .inl (sh fl))), (pn, .inr (0, [.ref pm, .ref pf, .int jn])), (pm, .inl (cI, 224, .inl jm)), (pf, .inl (cI, 224, .inl jf))]) [0, 1, 2, 3, 4, 5, 6] (by decide) rfl).2 k9 (z9, e9) h9) (fun z9 ⟨k9, e9, h9⟩ => (hD.sub (ws' := [(x, .inr (2, [.ref rg, .ref tr, .ref pn, .int (nI d), .int (nI r), .int ld, .int li, .int tl, .int mo])), (rg, .inr (1, [.ref ro, .ref rl, .int pl])), (ro, .inl (cI, 4, .inl fo)), (rl, .inl (cI, 28, .inl (sh fl))), (pn, .inr (0, [.ref pm, .ref pf, .int jn])), (pm, .inl (cI, 224, .inl jm)), (pf, .inl (cI, 224, .inl jf))]) [0, 1, 2, 3, 4, 5, 6] (by decide) rfl).2 k9 (z9, e9) h9) (fun z9 _ ⟨k9, e9, h9⟩ => (hD.sub (ws' := [(x, .inr (2, [.ref rg, .ref tr, .ref pn, .int (nI d), .int (nI r), .int ld, .int li, .int tl, .int mo])), (rg, .inr (1, [.ref ro, .ref rl, .int pl])), (ro, .inl (cI, 4, .inl fo)), (rl, .inl (cI, 28, .inl (sh fl))), (pn, .inr (0, [.ref pm, .ref pf, .int jn])), (pm, .inl (cI, 224, .inl jm)), (pf, .inl (cI, 224, .inl jf))]) [0, 1, 2, 3, 4, 5, 6] (by decide) rfl).2 k9 (z9, e9) h9) (fun E ce q9 H1 locs hE hB hz1 hk1 hS hce hcv hcl => ?_) (fun H1 locs hB hz1 hk1 hS => ?_)
  · obtain ⟨n9, m9, f9, hB⟩ := hB
    obtain ⟨hP, hD⟩ := c_join (ws' := [(x, .inr (2, [.ref rg, .ref tr, .ref pn, .int (nI d), .int (nI r), .int ld, .int li, .int tl, .int mo])), (rg, .inr (1, [.ref ro, .ref rl, .int pl])), (ro, .inl (cI, 4, .inl fo)), (rl, .inl (cI, 28, .inl (sh fl))), (pn, .inr (0, [.ref pm, .ref pf, .int n9])), (pm, .inl (cI, 224, .inl m9)), (pf, .inl (cI, 224, .inl f9)), (qo, .inl (cJ, 1, .inr (.inl g0)))]) (wr := [(qo, .inl (cJ, 1, .inr (.inl g0)))]) (w1 := [(x, .inr (2, [.ref rg, .ref tr, .ref pn, .int (nI d), .int (nI r), .int ld, .int li, .int tl, .int mo])), (rg, .inr (1, [.ref ro, .ref rl, .int pl])), (ro, .inl (cI, 4, .inl fo)), (rl, .inl (cI, 28, .inl (sh fl))), (pn, .inr (0, [.ref pm, .ref pf, .int n9])), (pm, .inl (cI, 224, .inl m9)), (pf, .inl (cI, 224, .inl f9))]) hP hD [0, 1, 2, 3, 4, 5, 6] [7] [1, 2, 3, 4, 5, 6, 7, 0] rfl rfl (by decide) (by decide) hk1 hB rfl rfl rfl (by decide)
    generalize H1 = H at hP hS hce ⊢
    rcases hE with ⟨rfl, hk⟩ | ⟨rfl, hk⟩
    · have hkn : ¬ k2 (inR v 0 7) (inR u 0 60 ∧ inR z 3 30) = 0 := by rw [hk]; decide
      refine c_catch (L0 := L0) hown hE0 (Or.inr (Or.inr rfl)) [] ⟨0, 12, 15, 21⟩ [⟨0, 12, 19, 13⟩] (htb.trans rfl) (fun z9 h9 => absurd h9 List.not_mem_nil) (by decide) (by decide) (hts (.classLink RL 21 xIOB) (by decide +kernel)) hce hcv hcl ?_
      show W _ _ _ _ _ _ _ _ _ _ _ _ _ _ _ (F0 m 15 ls [.ref q9])
      refine lv_astore (lv' := [(5, .ref q9), (0, .ref x), (1, .int u), (2, .int v), (3, .int z), (4, .ref qo)]) hx hb dL_fewestMoves_15 hl (by decide) rfl (fun ls hl => ?_)
      refine lv_iconst (v := 1) hx hb dL_fewestMoves_17 (by decide) ?_
      refine W.widen (k := 3) (n := 18) (Nat.le_of_ble_eq_true rfl) (Nat.le_of_ble_eq_true rfl) ?_
      exact W.iret (v := 1) hx hb hRt (fun t ht hW => ⟨⟨by rw [hk], by rw [ht]; exact ⟨g0, _, _, _, (fun h => absurd h hkn), hP⟩⟩, hS.F ht⟩) hS.2.2 dL_fewestMoves_18
    · have hkn : ¬ k2 (inR v 0 7) (inR u 0 60 ∧ inR z 3 30) = 0 := by rw [hk]; decide
      refine c_catch (L0 := L0) hown hE0 (Or.inl rfl) [⟨0, 12, 15, 21⟩] ⟨0, 12, 19, 13⟩ [] (htb.trans rfl) (fun z9 h9 => by
            simp only [List.mem_cons, List.not_mem_nil, or_false] at h9
            rcases h9 with rfl
            · exact ⟨by decide, xIOB, hts (.classLink RL 21 xIOB) (by decide +kernel), (kE_nc hE0).2.1⟩) (by decide) (by decide) (hts (.classLink RL 13 xIAE) (by decide +kernel)) hce hcv hcl ?_
      show W _ _ _ _ _ _ _ _ _ _ _ _ _ _ _ (F0 m 19 ls [.ref q9])
      refine lv_astore (lv' := [(5, .ref q9), (0, .ref x), (1, .int u), (2, .int v), (3, .int z), (4, .ref qo)]) hx hb dL_fewestMoves_19 hl (by decide) rfl (fun ls hl => ?_)
      refine lv_iconst (v := 2) hx hb dL_fewestMoves_21 (by decide) ?_
      refine W.widen (k := 3) (n := 18) (Nat.le_of_ble_eq_true rfl) (Nat.le_of_ble_eq_true rfl) ?_
      exact W.iret (v := 2) hx hb hRt (fun t ht hW => ⟨⟨by rw [hk], by rw [ht]; exact ⟨g0, _, _, _, (fun h => absurd h hkn), hP⟩⟩, hS.F ht⟩) hS.2.2 dL_fewestMoves_22
  · obtain ⟨hk0, n9, m9, f9, hB⟩ := hB
    obtain ⟨hP, hD⟩ := c_join (ws' := [(x, .inr (2, [.ref rg, .ref tr, .ref pn, .int (nI d), .int (nI r), .int ld, .int li, .int tl, .int mo])), (rg, .inr (1, [.ref ro, .ref rl, .int pl])), (ro, .inl (cI, 4, .inl fo)), (rl, .inl (cI, 28, .inl (sh fl))), (pn, .inr (0, [.ref pm, .ref pf, .int n9])), (pm, .inl (cI, 224, .inl m9)), (pf, .inl (cI, 224, .inl f9)), (qo, .inl (cJ, 1, .inr (.inl g0)))]) (wr := [(qo, .inl (cJ, 1, .inr (.inl g0)))]) (w1 := [(x, .inr (2, [.ref rg, .ref tr, .ref pn, .int (nI d), .int (nI r), .int ld, .int li, .int tl, .int mo])), (rg, .inr (1, [.ref ro, .ref rl, .int pl])), (ro, .inl (cI, 4, .inl fo)), (rl, .inl (cI, 28, .inl (sh fl))), (pn, .inr (0, [.ref pm, .ref pf, .int n9])), (pm, .inl (cI, 224, .inl m9)), (pf, .inl (cI, 224, .inl f9))]) hP hD [0, 1, 2, 3, 4, 5, 6] [7] [1, 2, 3, 4, 5, 6, 7, 0] rfl rfl (by decide) (by decide) hk1 hB rfl rfl rfl (by decide)
    generalize H1 = H at hP hS ⊢
    show W _ _ _ _ _ _ _ _ _ _ _ _ _ _ _ (F0 m 10 ls [.int ((goS (safS fo fl pl u) d r).1 (8 * z.toNatClampNeg + v.toNatClampNeg)), .int 0, .ref qo])
    refine lv_i2l hx hb dL_fewestMoves_10 rfl ?_
    refine va_last hx hb hK hP hD hS 7 1 rfl rfl (vp_in_nI (n := 0) (by decide) (by decide)) dL_fewestMoves_11 (fun H locs hP hD hS => ?_)
    have hP : va_P D vwCl [(x, .inr (2, [.ref rg, .ref tr, .ref pn, .int (nI d), .int (nI r), .int ld, .int li, .int tl, .int mo])), (rg, .inr (1, [.ref ro, .ref rl, .int pl])), (ro, .inl (cI, 4, .inl fo)), (rl, .inl (cI, 28, .inl (sh fl))), (pn, .inr (0, [.ref pm, .ref pf, .int n9])), (pm, .inl (cI, 224, .inl m9)), (pf, .inl (cI, 224, .inl f9)), (qo, .inl (cJ, 1, .inr (.inl (vp_updL g0 0 (((goS (safS fo fl pl u) d r).1 (8 * z.toNatClampNeg + v.toNatClampNeg)).toInt64)))))] H := hP
    have hD : va_D A [(x, .inr (2, [.ref rg, .ref tr, .ref pn, .int (nI d), .int (nI r), .int ld, .int li, .int tl, .int mo])), (rg, .inr (1, [.ref ro, .ref rl, .int pl])), (ro, .inl (cI, 4, .inl fo)), (rl, .inl (cI, 28, .inl (sh fl))), (pn, .inr (0, [.ref pm, .ref pf, .int n9])), (pm, .inl (cI, 224, .inl m9)), (pf, .inl (cI, 224, .inl f9)), (qo, .inl (cJ, 1, .inr (.inl (vp_updL g0 0 (((goS (safS fo fl pl u) d r).1 (8 * z.toNatClampNeg + v.toNatClampNeg)).toInt64)))))] := hD
    refine lv_goto (tgt := 23) hx hb dL_fewestMoves_12 (by decide) ?_
    refine lv_iconst (v := 0) hx hb dL_fewestMoves_23 (by decide) ?_
    refine W.widen (k := 3) (n := 18) (Nat.le_of_ble_eq_true rfl) (Nat.le_of_ble_eq_true rfl) ?_
    exact W.iret (v := 0) hx hb hRt (fun t ht hW => ⟨⟨by rw [hk0], by rw [ht]; exact ⟨vp_updL g0 0 (((goS (safS fo fl pl u) d r).1 (8 * z.toNatClampNeg + v.toNatClampNeg)).toInt64), _, _, _, (fun _ => pk_uLs), hP⟩⟩, hS.F ht⟩) hS.2.2 dL_fewestMoves_24
set_option maxHeartbeats 4000000 in
set_option maxRecDepth 100000 in
/-- the law of placesWithin -/
theorem w_placesWithin (l : Launch) (hfl : l.stackTraces = false) (D : va_G) (L0 : Nat) (cI cJ : ClassId) (x rg tr pn ro rl d r : Nat) (ld li tl mo pl : Int32) (fo fl : Nat → Int32) (pm pf : Nat) (jn : Int32) (jm jf : Nat → Int32) (qo : Nat) (g0 : Nat → Int64) (u : Int32) (hd : d < 8) (hr : 3 ≤ r ∧ r ≤ 30) : Met l yL_placesWithin wsL_placesWithin ({ frames := 8, cells := 1, slots := 6, locals := 169 }) (cP L0 D [(cI, .int), (cJ, .long)] [(x, .inr (2, [.ref rg, .ref tr, .ref pn, .int (nI d), .int (nI r), .int ld, .int li, .int tl, .int mo])), (rg, .inr (1, [.ref ro, .ref rl, .int pl])), (ro, .inl (cI, 4, .inl fo)), (rl, .inl (cI, 28, .inl (sh fl))), (pn, .inr (0, [.ref pm, .ref pf, .int jn])), (pm, .inl (cI, 224, .inl jm)), (pf, .inl (cI, 224, .inl jf)), (qo, .inl (cJ, 1, .inr (.inl g0)))] [.ref x, .int u, .ref qo]) (cB (some (.int (k1 (inR u 0 60)))) (fun H => ∃ g9 : Nat → Int64, ∃ (n9 : Int32) (m9 f9 : Nat → Int32), (k1 (inR u 0 60) = 0 → g9 0 = (nI (goS (safS fo fl pl u) d r).2.2).toInt64) ∧ va_P D vwCl [(x, .inr (2, [.ref rg, .ref tr, .ref pn, .int (nI d), .int (nI r), .int ld, .int li, .int tl, .int mo])), (rg, .inr (1, [.ref ro, .ref rl, .int pl])), (ro, .inl (cI, 4, .inl fo)), (rl, .inl (cI, 28, .inl (sh fl))), (pn, .inr (0, [.ref pm, .ref pf, .int n9])), (pm, .inl (cI, 224, .inl m9)), (pf, .inl (cI, 224, .inl f9)), (qo, .inl (cJ, 1, .inr (.inl g9)))] H) (cA [(x, .inr (2, [.ref rg, .ref tr, .ref pn, .int (nI d), .int (nI r), .int ld, .int li, .int tl, .int mo])), (rg, .inr (1, [.ref ro, .ref rl, .int pl])), (ro, .inl (cI, 4, .inl fo)), (rl, .inl (cI, 28, .inl (sh fl))), (pn, .inr (0, [.ref pm, .ref pf, .int jn])), (pm, .inl (cI, 224, .inl jm)), (pf, .inl (cI, 224, .inl jf)), (qo, .inl (cJ, 1, .inr (.inl g0)))])) 1 6 (cA [(x, .inr (2, [.ref rg, .ref tr, .ref pn, .int (nI d), .int (nI r), .int ld, .int li, .int tl, .int mo])), (rg, .inr (1, [.ref ro, .ref rl, .int pl])), (ro, .inl (cI, 4, .inl fo)), (rl, .inl (cI, 28, .inl (sh fl))), (pn, .inr (0, [.ref pm, .ref pf, .int jn])), (pm, .inl (cI, 224, .inl jm)), (pf, .inl (cI, 224, .inl jf)), (qo, .inl (cJ, 1, .inr (.inl g0)))]) := by
  refine c_ofWH (cc := cL_placesWithin) (maxL := 4) (ret := (some .int)) (by decide) rfl ?_
  intro p e s m args below meth c s₁ B hml hv
  obtain ⟨rfl, hP, hK, hD0, hE0⟩ := hv
  have hx := B.exec
  have hb := B.bytes
  have hRt := B.returns
  have hts := atoms_spec (ws := wsL_placesWithin) B.pre
  have hown : s.vm.findClass RL = some m.cls := findClass_of_methodNamed B.named
  have hlocks := B.notSynchronized
  have hAL : ∀ z9 : Nat, cA [(x, .inr (2, [.ref rg, .ref tr, .ref pn, .int (nI d), .int (nI r), .int ld, .int li, .int tl, .int mo])), (rg, .inr (1, [.ref ro, .ref rl, .int pl])), (ro, .inl (cI, 4, .inl fo)), (rl, .inl (cI, 28, .inl (sh fl))), (pn, .inr (0, [.ref pm, .ref pf, .int jn])), (pm, .inl (cI, 224, .inl jm)), (pf, .inl (cI, 224, .inl jf)), (qo, .inl (cJ, 1, .inr (.inl g0)))] z9 → L0 ≤ z9 := fun z9 ⟨k9, e9, h9⟩ => hD0.2 k9 (z9, e9) h9
  have hD : va_D (cA [(x, .inr (2, [.ref rg, .ref tr, .ref pn, .int (nI d), .int (nI r), .int ld, .int li, .int tl, .int mo])), (rg, .inr (1, [.ref ro, .ref rl, .int pl])), (ro, .inl (cI, 4, .inl fo)), (rl, .inl (cI, 28, .inl (sh fl))), (pn, .inr (0, [.ref pm, .ref pf, .int jn])), (pm, .inl (cI, 224, .inl jm)), (pf, .inl (cI, 224, .inl jf)), (qo, .inl (cJ, 1, .inr (.inl g0)))]) [(x, .inr (2, [.ref rg, .ref tr, .ref pn, .int (nI d), .int (nI r), .int ld, .int li, .int tl, .int mo])), (rg, .inr (1, [.ref ro, .ref rl, .int pl])), (ro, .inl (cI, 4, .inl fo)), (rl, .inl (cI, 28, .inl (sh fl))), (pn, .inr (0, [.ref pm, .ref pf, .int jn])), (pm, .inl (cI, 224, .inl jm)), (pf, .inl (cI, 224, .inl jf)), (qo, .inl (cJ, 1, .inr (.inl g0)))] := ⟨hD0.1, fun k9 z9 h9 => cA_of h9⟩
  generalize hAe : cA [(x, .inr (2, [.ref rg, .ref tr, .ref pn, .int (nI d), .int (nI r), .int ld, .int li, .int tl, .int mo])), (rg, .inr (1, [.ref ro, .ref rl, .int pl])), (ro, .inl (cI, 4, .inl fo)), (rl, .inl (cI, 28, .inl (sh fl))), (pn, .inr (0, [.ref pm, .ref pf, .int jn])), (pm, .inl (cI, 224, .inl jm)), (pf, .inl (cI, 224, .inl jf)), (qo, .inl (cJ, 1, .inr (.inl g0)))] = A at hD hAL ⊢
  have hS : va_S A s.heap s.heap [] := va_S.rf
  have hl := lv_entry ([.ref x, .int u, .ref qo]) (n := 4) (Nat.le_of_ble_eq_true rfl)
  rw [lg_entry_eq]
  generalize (lg_sl ([.ref x, .int u, .ref qo]) ++ List.replicate (4 - (lg_sl ([.ref x, .int u, .ref qo])).length) Slot.unset).toArray = ls at hl ⊢
  have hl : lv_has ls 4 [(0, .ref x), (1, .int u), (2, .ref qo)] := hl
  have htb := vx_table (x := yL_placesWithin) B (hts (.codeWith yL_placesWithin cL_placesWithin 4 (some .int) [(0, 9, 12, 13)]) (by decide +kernel))
  refine lv_aload_n hx hb dL_placesWithin_0 rfl (lv_at hl 2 rfl) ?_
  refine lv_iconst (v := 0) hx hb dL_placesWithin_1 (by decide) ?_
  refine lv_aload_n hx hb dL_placesWithin_2 rfl (lv_at hl 0 rfl) ?_
  refine lv_iload_n hx hb dL_placesWithin_3 rfl (lv_at hl 1 rfl) ?_
  have hPc := hP.sub (ws' := [(x, .inr (2, [.ref rg, .ref tr, .ref pn, .int (nI d), .int (nI r), .int ld, .int li, .int tl, .int mo])), (rg, .inr (1, [.ref ro, .ref rl, .int pl])), (ro, .inl (cI, 4, .inl fo)), (rl, .inl (cI, 28, .inl (sh fl))), (pn, .inr (0, [.ref pm, .ref pf, .int jn])), (pm, .inl (cI, 224, .inl jm)), (pf, .inl (cI, 224, .inl jf))]) [0, 1, 2, 3, 4, 5, 6] rfl
  have hDc : va_D (fun q : Nat => L0 ≤ q) [(x, .inr (2, [.ref rg, .ref tr, .ref pn, .int (nI d), .int (nI r), .int ld, .int li, .int tl, .int mo])), (rg, .inr (1, [.ref ro, .ref rl, .int pl])), (ro, .inl (cI, 4, .inl fo)), (rl, .inl (cI, 28, .inl (sh fl))), (pn, .inr (0, [.ref pm, .ref pf, .int jn])), (pm, .inl (cI, 224, .inl jm)), (pf, .inl (cI, 224, .inl jf))] := (hD.sub (ws' := [(x, .inr (2, [.ref rg, .ref tr, .ref pn, .int (nI d), .int (nI r), .int ld, .int li, .int tl, .int mo])), (rg, .inr (1, [.ref ro, .ref rl, .int pl])), (ro, .inl (cI, 4, .inl fo)), (rl, .inl (cI, 28, .inl (sh fl))), (pn, .inr (0, [.ref pm, .ref pf, .int jn])), (pm, .inl (cI, 224, .inl jm)), (pf, .inl (cI, 224, .inl jf))]) [0, 1, 2, 3, 4, 5, 6] (by decide) rfl).weaken (fun _ z9 _ h9 => hAL _ h9)
  have hKc := hK.sub (tys' := [(cI, .int)]) [0] rfl
  refine c_callX (vx_runV (As := [.int u]) (rest := [.int 0, .ref qo]) ⟨hx, hb, hml, hown, hts⟩ (k_placesWithin l hfl D L0 cI x rg tr pn ro rl d r ld li tl mo pl fo fl pm pf jn jm jf u hd hr) (cwV 1 hts gL_placesWithin_X2_placesWithin rfl rfl rfl (by decide +kernel) ⟨Nat.le_of_ble_eq_true rfl, Nat.le_of_ble_eq_true rfl⟩) ⟨cP_blind, va_recv hKc hPc (ci := 2) (q0 := 0) rfl rfl, cP_of hPc hKc hDc (kE_at hE0 hAL hS)⟩ rfl rfl hl.1 rfl (lv_room (Nat.le_of_ble_eq_true rfl)) dL_placesWithin_4 ⟨Nat.le_of_ble_eq_true rfl, Nat.le_of_ble_eq_true rfl⟩) hS (fun z9 _ ⟨k9, e9, h9⟩ => (hD.sub (ws' := [(x, .inr (2, [.ref rg, .ref tr, .ref pn, .int (nI d), .int (nI r), .int ld, .int li, .int tl, .int mo])), (rg, .inr (1, [.ref ro, .ref rl, .int pl])), (ro, .inl (cI, 4, .inl fo)), (rl, .inl (cI, 28, .inl (sh fl))), (pn, .inr (0, [.ref pm, .ref pf, .int jn])), (pm, .inl (cI, 224, .inl jm)), (pf, .inl (cI, 224, .inl jf))]) [0, 1, 2, 3, 4, 5, 6] (by decide) rfl).2 k9 (z9, e9) h9) (fun z9 ⟨k9, e9, h9⟩ => (hD.sub (ws' := [(x, .inr (2, [.ref rg, .ref tr, .ref pn, .int (nI d), .int (nI r), .int ld, .int li, .int tl, .int mo])), (rg, .inr (1, [.ref ro, .ref rl, .int pl])), (ro, .inl (cI, 4, .inl fo)), (rl, .inl (cI, 28, .inl (sh fl))), (pn, .inr (0, [.ref pm, .ref pf, .int jn])), (pm, .inl (cI, 224, .inl jm)), (pf, .inl (cI, 224, .inl jf))]) [0, 1, 2, 3, 4, 5, 6] (by decide) rfl).2 k9 (z9, e9) h9) (fun z9 _ ⟨k9, e9, h9⟩ => (hD.sub (ws' := [(x, .inr (2, [.ref rg, .ref tr, .ref pn, .int (nI d), .int (nI r), .int ld, .int li, .int tl, .int mo])), (rg, .inr (1, [.ref ro, .ref rl, .int pl])), (ro, .inl (cI, 4, .inl fo)), (rl, .inl (cI, 28, .inl (sh fl))), (pn, .inr (0, [.ref pm, .ref pf, .int jn])), (pm, .inl (cI, 224, .inl jm)), (pf, .inl (cI, 224, .inl jf))]) [0, 1, 2, 3, 4, 5, 6] (by decide) rfl).2 k9 (z9, e9) h9) (fun E ce q9 H1 locs hE hB hz1 hk1 hS hce hcv hcl => ?_) (fun H1 locs hB hz1 hk1 hS => ?_)
  · obtain ⟨n9, m9, f9, hB⟩ := hB
    obtain ⟨hP, hD⟩ := c_join (ws' := [(x, .inr (2, [.ref rg, .ref tr, .ref pn, .int (nI d), .int (nI r), .int ld, .int li, .int tl, .int mo])), (rg, .inr (1, [.ref ro, .ref rl, .int pl])), (ro, .inl (cI, 4, .inl fo)), (rl, .inl (cI, 28, .inl (sh fl))), (pn, .inr (0, [.ref pm, .ref pf, .int n9])), (pm, .inl (cI, 224, .inl m9)), (pf, .inl (cI, 224, .inl f9)), (qo, .inl (cJ, 1, .inr (.inl g0)))]) (wr := [(qo, .inl (cJ, 1, .inr (.inl g0)))]) (w1 := [(x, .inr (2, [.ref rg, .ref tr, .ref pn, .int (nI d), .int (nI r), .int ld, .int li, .int tl, .int mo])), (rg, .inr (1, [.ref ro, .ref rl, .int pl])), (ro, .inl (cI, 4, .inl fo)), (rl, .inl (cI, 28, .inl (sh fl))), (pn, .inr (0, [.ref pm, .ref pf, .int n9])), (pm, .inl (cI, 224, .inl m9)), (pf, .inl (cI, 224, .inl f9))]) hP hD [0, 1, 2, 3, 4, 5, 6] [7] [1, 2, 3, 4, 5, 6, 7, 0] rfl rfl (by decide) (by decide) hk1 hB rfl rfl rfl (by decide)
    generalize H1 = H at hP hS hce ⊢
    rcases hE with ⟨rfl, hk⟩
    · have hkn : ¬ k1 (inR u 0 60) = 0 := by rw [hk]; decide
      refine c_catch (L0 := L0) hown hE0 (Or.inl rfl) [] ⟨0, 9, 12, 13⟩ [] (htb.trans rfl) (fun z9 h9 => absurd h9 List.not_mem_nil) (by decide) (by decide) (hts (.classLink RL 13 xIAE) (by decide +kernel)) hce hcv hcl ?_
      show W _ _ _ _ _ _ _ _ _ _ _ _ _ _ _ (F0 m 12 ls [.ref q9])
      refine lv_astore_n (lv' := [(3, .ref q9), (0, .ref x), (1, .int u), (2, .ref qo)]) hx hb dL_placesWithin_12 rfl hl (by decide) rfl (fun ls hl => ?_)
      refine lv_iconst (v := 1) hx hb dL_placesWithin_13 (by decide) ?_
      refine W.widen (k := 1) (n := 6) (Nat.le_of_ble_eq_true rfl) (Nat.le_of_ble_eq_true rfl) ?_
      exact W.iret (v := 1) hx hb hRt (fun t ht hW => ⟨⟨by rw [hk], by rw [ht]; exact ⟨g0, _, _, _, (fun h => absurd h hkn), hP⟩⟩, hS.F ht⟩) hS.2.2 dL_placesWithin_14
  · obtain ⟨hk0, n9, m9, f9, hB⟩ := hB
    obtain ⟨hP, hD⟩ := c_join (ws' := [(x, .inr (2, [.ref rg, .ref tr, .ref pn, .int (nI d), .int (nI r), .int ld, .int li, .int tl, .int mo])), (rg, .inr (1, [.ref ro, .ref rl, .int pl])), (ro, .inl (cI, 4, .inl fo)), (rl, .inl (cI, 28, .inl (sh fl))), (pn, .inr (0, [.ref pm, .ref pf, .int n9])), (pm, .inl (cI, 224, .inl m9)), (pf, .inl (cI, 224, .inl f9)), (qo, .inl (cJ, 1, .inr (.inl g0)))]) (wr := [(qo, .inl (cJ, 1, .inr (.inl g0)))]) (w1 := [(x, .inr (2, [.ref rg, .ref tr, .ref pn, .int (nI d), .int (nI r), .int ld, .int li, .int tl, .int mo])), (rg, .inr (1, [.ref ro, .ref rl, .int pl])), (ro, .inl (cI, 4, .inl fo)), (rl, .inl (cI, 28, .inl (sh fl))), (pn, .inr (0, [.ref pm, .ref pf, .int n9])), (pm, .inl (cI, 224, .inl m9)), (pf, .inl (cI, 224, .inl f9))]) hP hD [0, 1, 2, 3, 4, 5, 6] [7] [1, 2, 3, 4, 5, 6, 7, 0] rfl rfl (by decide) (by decide) hk1 hB rfl rfl rfl (by decide)
    generalize H1 = H at hP hS ⊢
    show W _ _ _ _ _ _ _ _ _ _ _ _ _ _ _ (F0 m 7 ls [.int (nI (goS (safS fo fl pl u) d r).2.2), .int 0, .ref qo])
    refine lv_i2l hx hb dL_placesWithin_7 rfl ?_
    refine va_last hx hb hK hP hD hS 7 1 rfl rfl (vp_in_nI (n := 0) (by decide) (by decide)) dL_placesWithin_8 (fun H locs hP hD hS => ?_)
    have hP : va_P D vwCl [(x, .inr (2, [.ref rg, .ref tr, .ref pn, .int (nI d), .int (nI r), .int ld, .int li, .int tl, .int mo])), (rg, .inr (1, [.ref ro, .ref rl, .int pl])), (ro, .inl (cI, 4, .inl fo)), (rl, .inl (cI, 28, .inl (sh fl))), (pn, .inr (0, [.ref pm, .ref pf, .int n9])), (pm, .inl (cI, 224, .inl m9)), (pf, .inl (cI, 224, .inl f9)), (qo, .inl (cJ, 1, .inr (.inl (vp_updL g0 0 ((nI (goS (safS fo fl pl u) d r).2.2).toInt64)))))] H := hP
    have hD : va_D A [(x, .inr (2, [.ref rg, .ref tr, .ref pn, .int (nI d), .int (nI r), .int ld, .int li, .int tl, .int mo])), (rg, .inr (1, [.ref ro, .ref rl, .int pl])), (ro, .inl (cI, 4, .inl fo)), (rl, .inl (cI, 28, .inl (sh fl))), (pn, .inr (0, [.ref pm, .ref pf, .int n9])), (pm, .inl (cI, 224, .inl m9)), (pf, .inl (cI, 224, .inl f9)), (qo, .inl (cJ, 1, .inr (.inl (vp_updL g0 0 ((nI (goS (safS fo fl pl u) d r).2.2).toInt64)))))] := hD
    refine lv_goto (tgt := 15) hx hb dL_placesWithin_9 (by decide) ?_
    refine lv_iconst (v := 0) hx hb dL_placesWithin_15 (by decide) ?_
    refine W.widen (k := 1) (n := 6) (Nat.le_of_ble_eq_true rfl) (Nat.le_of_ble_eq_true rfl) ?_
    exact W.iret (v := 0) hx hb hRt (fun t ht hW => ⟨⟨by rw [hk0], by rw [ht]; exact ⟨vp_updL g0 0 ((nI (goS (safS fo fl pl u) d r).2.2).toInt64), _, _, _, (fun _ => pk_uLs), hP⟩⟩, hS.F ht⟩) hS.2.2 dL_placesWithin_16
set_option maxHeartbeats 4000000 in
set_option maxRecDepth 100000 in
/-- the law of bestOutrigger -/
theorem w_bestOutrigger (l : Launch) (hfl : l.stackTraces = false) (D : va_G) (L0 : Nat) (cI cJ : ClassId) (x rg tr pn ro rl d r : Nat) (ld li tl mo pl : Int32) (fo fl : Nat → Int32) (t0 t1 : Nat) (jp : Int32) (jo jl : Nat → Int32) (pm pf : Nat) (jn : Int32) (jm jf : Nat → Int32) (qo : Nat) (g0 : Nat → Int64) (u : Int32) (hd : d < 8) (hr : 3 ≤ r ∧ r ≤ 30) : Met l yL_bestOutrigger wsL_bestOutrigger ({ frames := 8, cells := 1, slots := 6, locals := 174 }) (cP L0 D [(cI, .int), (cJ, .long)] [(x, .inr (2, [.ref rg, .ref tr, .ref pn, .int (nI d), .int (nI r), .int ld, .int li, .int tl, .int mo])), (rg, .inr (1, [.ref ro, .ref rl, .int pl])), (ro, .inl (cI, 4, .inl fo)), (rl, .inl (cI, 28, .inl (sh fl))), (tr, .inr (1, [.ref t0, .ref t1, .int jp])), (t0, .inl (cI, 4, .inl jo)), (t1, .inl (cI, 28, .inl jl)), (pn, .inr (0, [.ref pm, .ref pf, .int jn])), (pm, .inl (cI, 224, .inl jm)), (pf, .inl (cI, 224, .inl jf)), (qo, .inl (cJ, 1, .inr (.inl g0)))] [.ref x, .int u, .ref qo]) (cB (some (.int (k1 (inR u 0 60)))) (fun H => ∃ g9 : Nat → Int64, ∃ (p9 : Int32) (o9 l9 : Nat → Int32) (n9 : Int32) (m9 f9 : Nat → Int32), (k1 (inR u 0 60) = 0 → g9 0 = ((boN (canS fo) (ownS fo fl pl u d r) 4).1).toInt64) ∧ va_P D vwCl [(x, .inr (2, [.ref rg, .ref tr, .ref pn, .int (nI d), .int (nI r), .int ld, .int li, .int tl, .int mo])), (rg, .inr (1, [.ref ro, .ref rl, .int pl])), (ro, .inl (cI, 4, .inl fo)), (rl, .inl (cI, 28, .inl (sh fl))), (tr, .inr (1, [.ref t0, .ref t1, .int p9])), (t0, .inl (cI, 4, .inl o9)), (t1, .inl (cI, 28, .inl l9)), (pn, .inr (0, [.ref pm, .ref pf, .int n9])), (pm, .inl (cI, 224, .inl m9)), (pf, .inl (cI, 224, .inl f9)), (qo, .inl (cJ, 1, .inr (.inl g9)))] H) (cA [(x, .inr (2, [.ref rg, .ref tr, .ref pn, .int (nI d), .int (nI r), .int ld, .int li, .int tl, .int mo])), (rg, .inr (1, [.ref ro, .ref rl, .int pl])), (ro, .inl (cI, 4, .inl fo)), (rl, .inl (cI, 28, .inl (sh fl))), (tr, .inr (1, [.ref t0, .ref t1, .int jp])), (t0, .inl (cI, 4, .inl jo)), (t1, .inl (cI, 28, .inl jl)), (pn, .inr (0, [.ref pm, .ref pf, .int jn])), (pm, .inl (cI, 224, .inl jm)), (pf, .inl (cI, 224, .inl jf)), (qo, .inl (cJ, 1, .inr (.inl g0)))])) 1 6 (cA [(x, .inr (2, [.ref rg, .ref tr, .ref pn, .int (nI d), .int (nI r), .int ld, .int li, .int tl, .int mo])), (rg, .inr (1, [.ref ro, .ref rl, .int pl])), (ro, .inl (cI, 4, .inl fo)), (rl, .inl (cI, 28, .inl (sh fl))), (tr, .inr (1, [.ref t0, .ref t1, .int jp])), (t0, .inl (cI, 4, .inl jo)), (t1, .inl (cI, 28, .inl jl)), (pn, .inr (0, [.ref pm, .ref pf, .int jn])), (pm, .inl (cI, 224, .inl jm)), (pf, .inl (cI, 224, .inl jf)), (qo, .inl (cJ, 1, .inr (.inl g0)))]) := by
  refine c_ofWH (cc := cL_bestOutrigger) (maxL := 4) (ret := (some .int)) (by decide) rfl ?_
  intro p e s m args below meth c s₁ B hml hv
  obtain ⟨rfl, hP, hK, hD0, hE0⟩ := hv
  have hx := B.exec
  have hb := B.bytes
  have hRt := B.returns
  have hts := atoms_spec (ws := wsL_bestOutrigger) B.pre
  have hown : s.vm.findClass RL = some m.cls := findClass_of_methodNamed B.named
  have hlocks := B.notSynchronized
  have hAL : ∀ z9 : Nat, cA [(x, .inr (2, [.ref rg, .ref tr, .ref pn, .int (nI d), .int (nI r), .int ld, .int li, .int tl, .int mo])), (rg, .inr (1, [.ref ro, .ref rl, .int pl])), (ro, .inl (cI, 4, .inl fo)), (rl, .inl (cI, 28, .inl (sh fl))), (tr, .inr (1, [.ref t0, .ref t1, .int jp])), (t0, .inl (cI, 4, .inl jo)), (t1, .inl (cI, 28, .inl jl)), (pn, .inr (0, [.ref pm, .ref pf, .int jn])), (pm, .inl (cI, 224, .inl jm)), (pf, .inl (cI, 224, .inl jf)), (qo, .inl (cJ, 1, .inr (.inl g0)))] z9 → L0 ≤ z9 := fun z9 ⟨k9, e9, h9⟩ => hD0.2 k9 (z9, e9) h9
  have hD : va_D (cA [(x, .inr (2, [.ref rg, .ref tr, .ref pn, .int (nI d), .int (nI r), .int ld, .int li, .int tl, .int mo])), (rg, .inr (1, [.ref ro, .ref rl, .int pl])), (ro, .inl (cI, 4, .inl fo)), (rl, .inl (cI, 28, .inl (sh fl))), (tr, .inr (1, [.ref t0, .ref t1, .int jp])), (t0, .inl (cI, 4, .inl jo)), (t1, .inl (cI, 28, .inl jl)), (pn, .inr (0, [.ref pm, .ref pf, .int jn])), (pm, .inl (cI, 224, .inl jm)), (pf, .inl (cI, 224, .inl jf)), (qo, .inl (cJ, 1, .inr (.inl g0)))]) [(x, .inr (2, [.ref rg, .ref tr, .ref pn, .int (nI d), .int (nI r), .int ld, .int li, .int tl, .int mo])), (rg, .inr (1, [.ref ro, .ref rl, .int pl])), (ro, .inl (cI, 4, .inl fo)), (rl, .inl (cI, 28, .inl (sh fl))), (tr, .inr (1, [.ref t0, .ref t1, .int jp])), (t0, .inl (cI, 4, .inl jo)), (t1, .inl (cI, 28, .inl jl)), (pn, .inr (0, [.ref pm, .ref pf, .int jn])), (pm, .inl (cI, 224, .inl jm)), (pf, .inl (cI, 224, .inl jf)), (qo, .inl (cJ, 1, .inr (.inl g0)))] := ⟨hD0.1, fun k9 z9 h9 => cA_of h9⟩
  generalize hAe : cA [(x, .inr (2, [.ref rg, .ref tr, .ref pn, .int (nI d), .int (nI r), .int ld, .int li, .int tl, .int mo])), (rg, .inr (1, [.ref ro, .ref rl, .int pl])), (ro, .inl (cI, 4, .inl fo)), (rl, .inl (cI, 28, .inl (sh fl))), (tr, .inr (1, [.ref t0, .ref t1, .int jp])), (t0, .inl (cI, 4, .inl jo)), (t1, .inl (cI, 28, .inl jl)), (pn, .inr (0, [.ref pm, .ref pf, .int jn])), (pm, .inl (cI, 224, .inl jm)), (pf, .inl (cI, 224, .inl jf)), (qo, .inl (cJ, 1, .inr (.inl g0)))] = A at hD hAL ⊢
  have hS : va_S A s.heap s.heap [] := va_S.rf
  have hl := lv_entry ([.ref x, .int u, .ref qo]) (n := 4) (Nat.le_of_ble_eq_true rfl)
  rw [lg_entry_eq]
  generalize (lg_sl ([.ref x, .int u, .ref qo]) ++ List.replicate (4 - (lg_sl ([.ref x, .int u, .ref qo])).length) Slot.unset).toArray = ls at hl ⊢
  have hl : lv_has ls 4 [(0, .ref x), (1, .int u), (2, .ref qo)] := hl
  have htb := vx_table (x := yL_bestOutrigger) B (hts (.codeWith yL_bestOutrigger cL_bestOutrigger 4 (some .int) [(0, 9, 12, 13)]) (by decide +kernel))
  refine lv_aload_n hx hb dL_bestOutrigger_0 rfl (lv_at hl 2 rfl) ?_
  refine lv_iconst (v := 0) hx hb dL_bestOutrigger_1 (by decide) ?_
  refine lv_aload_n hx hb dL_bestOutrigger_2 rfl (lv_at hl 0 rfl) ?_
  refine lv_iload_n hx hb dL_bestOutrigger_3 rfl (lv_at hl 1 rfl) ?_
  have hPc := hP.sub (ws' := [(x, .inr (2, [.ref rg, .ref tr, .ref pn, .int (nI d), .int (nI r), .int ld, .int li, .int tl, .int mo])), (rg, .inr (1, [.ref ro, .ref rl, .int pl])), (ro, .inl (cI, 4, .inl fo)), (rl, .inl (cI, 28, .inl (sh fl))), (tr, .inr (1, [.ref t0, .ref t1, .int jp])), (t0, .inl (cI, 4, .inl jo)), (t1, .inl (cI, 28, .inl jl)), (pn, .inr (0, [.ref pm, .ref pf, .int jn])), (pm, .inl (cI, 224, .inl jm)), (pf, .inl (cI, 224, .inl jf))]) [0, 1, 2, 3, 4, 5, 6, 7, 8, 9] rfl
  have hDc : va_D (fun q : Nat => L0 ≤ q) [(x, .inr (2, [.ref rg, .ref tr, .ref pn, .int (nI d), .int (nI r), .int ld, .int li, .int tl, .int mo])), (rg, .inr (1, [.ref ro, .ref rl, .int pl])), (ro, .inl (cI, 4, .inl fo)), (rl, .inl (cI, 28, .inl (sh fl))), (tr, .inr (1, [.ref t0, .ref t1, .int jp])), (t0, .inl (cI, 4, .inl jo)), (t1, .inl (cI, 28, .inl jl)), (pn, .inr (0, [.ref pm, .ref pf, .int jn])), (pm, .inl (cI, 224, .inl jm)), (pf, .inl (cI, 224, .inl jf))] := (hD.sub (ws' := [(x, .inr (2, [.ref rg, .ref tr, .ref pn, .int (nI d), .int (nI r), .int ld, .int li, .int tl, .int mo])), (rg, .inr (1, [.ref ro, .ref rl, .int pl])), (ro, .inl (cI, 4, .inl fo)), (rl, .inl (cI, 28, .inl (sh fl))), (tr, .inr (1, [.ref t0, .ref t1, .int jp])), (t0, .inl (cI, 4, .inl jo)), (t1, .inl (cI, 28, .inl jl)), (pn, .inr (0, [.ref pm, .ref pf, .int jn])), (pm, .inl (cI, 224, .inl jm)), (pf, .inl (cI, 224, .inl jf))]) [0, 1, 2, 3, 4, 5, 6, 7, 8, 9] (by decide) rfl).weaken (fun _ z9 _ h9 => hAL _ h9)
  have hKc := hK.sub (tys' := [(cI, .int)]) [0] rfl
  refine c_callX (vx_runV (As := [.int u]) (rest := [.int 0, .ref qo]) ⟨hx, hb, hml, hown, hts⟩ (k_bestOutrigger l hfl D L0 cI x rg tr pn ro rl d r ld li tl mo pl fo fl t0 t1 jp jo jl pm pf jn jm jf u hd hr) (cwV 1 hts gL_bestOutrigger_X2_bestOutrigger rfl rfl rfl (by decide +kernel) ⟨Nat.le_of_ble_eq_true rfl, Nat.le_of_ble_eq_true rfl⟩) ⟨cP_blind, va_recv hKc hPc (ci := 2) (q0 := 0) rfl rfl, cP_of hPc hKc hDc (kE_at hE0 hAL hS)⟩ rfl rfl hl.1 rfl (lv_room (Nat.le_of_ble_eq_true rfl)) dL_bestOutrigger_4 ⟨Nat.le_of_ble_eq_true rfl, Nat.le_of_ble_eq_true rfl⟩) hS (fun z9 _ ⟨k9, e9, h9⟩ => (hD.sub (ws' := [(x, .inr (2, [.ref rg, .ref tr, .ref pn, .int (nI d), .int (nI r), .int ld, .int li, .int tl, .int mo])), (rg, .inr (1, [.ref ro, .ref rl, .int pl])), (ro, .inl (cI, 4, .inl fo)), (rl, .inl (cI, 28, .inl (sh fl))), (tr, .inr (1, [.ref t0, .ref t1, .int jp])), (t0, .inl (cI, 4, .inl jo)), (t1, .inl (cI, 28, .inl jl)), (pn, .inr (0, [.ref pm, .ref pf, .int jn])), (pm, .inl (cI, 224, .inl jm)), (pf, .inl (cI, 224, .inl jf))]) [0, 1, 2, 3, 4, 5, 6, 7, 8, 9] (by decide) rfl).2 k9 (z9, e9) h9) (fun z9 ⟨k9, e9, h9⟩ => (hD.sub (ws' := [(x, .inr (2, [.ref rg, .ref tr, .ref pn, .int (nI d), .int (nI r), .int ld, .int li, .int tl, .int mo])), (rg, .inr (1, [.ref ro, .ref rl, .int pl])), (ro, .inl (cI, 4, .inl fo)), (rl, .inl (cI, 28, .inl (sh fl))), (tr, .inr (1, [.ref t0, .ref t1, .int jp])), (t0, .inl (cI, 4, .inl jo)), (t1, .inl (cI, 28, .inl jl)), (pn, .inr (0, [.ref pm, .ref pf, .int jn])), (pm, .inl (cI, 224, .inl jm)), (pf, .inl (cI, 224, .inl jf))]) [0, 1, 2, 3, 4, 5, 6, 7, 8, 9] (by decide) rfl).2 k9 (z9, e9) h9) (fun z9 _ ⟨k9, e9, h9⟩ => (hD.sub (ws' := [(x, .inr (2, [.ref rg, .ref tr, .ref pn, .int (nI d), .int (nI r), .int ld, .int li, .int tl, .int mo])), (rg, .inr (1, [.ref ro, .ref rl, .int pl])), (ro, .inl (cI, 4, .inl fo)), (rl, .inl (cI, 28, .inl (sh fl))), (tr, .inr (1, [.ref t0, .ref t1, .int jp])), (t0, .inl (cI, 4, .inl jo)), (t1, .inl (cI, 28, .inl jl)), (pn, .inr (0, [.ref pm, .ref pf, .int jn])), (pm, .inl (cI, 224, .inl jm)), (pf, .inl (cI, 224, .inl jf))]) [0, 1, 2, 3, 4, 5, 6, 7, 8, 9] (by decide) rfl).2 k9 (z9, e9) h9) (fun E ce q9 H1 locs hE hB hz1 hk1 hS hce hcv hcl => ?_) (fun H1 locs hB hz1 hk1 hS => ?_)
  · obtain ⟨p9, o9, l9, n9, m9, f9, hB⟩ := hB
    obtain ⟨hP, hD⟩ := c_join (ws' := [(x, .inr (2, [.ref rg, .ref tr, .ref pn, .int (nI d), .int (nI r), .int ld, .int li, .int tl, .int mo])), (rg, .inr (1, [.ref ro, .ref rl, .int pl])), (ro, .inl (cI, 4, .inl fo)), (rl, .inl (cI, 28, .inl (sh fl))), (tr, .inr (1, [.ref t0, .ref t1, .int p9])), (t0, .inl (cI, 4, .inl o9)), (t1, .inl (cI, 28, .inl l9)), (pn, .inr (0, [.ref pm, .ref pf, .int n9])), (pm, .inl (cI, 224, .inl m9)), (pf, .inl (cI, 224, .inl f9)), (qo, .inl (cJ, 1, .inr (.inl g0)))]) (wr := [(qo, .inl (cJ, 1, .inr (.inl g0)))]) (w1 := [(x, .inr (2, [.ref rg, .ref tr, .ref pn, .int (nI d), .int (nI r), .int ld, .int li, .int tl, .int mo])), (rg, .inr (1, [.ref ro, .ref rl, .int pl])), (ro, .inl (cI, 4, .inl fo)), (rl, .inl (cI, 28, .inl (sh fl))), (tr, .inr (1, [.ref t0, .ref t1, .int p9])), (t0, .inl (cI, 4, .inl o9)), (t1, .inl (cI, 28, .inl l9)), (pn, .inr (0, [.ref pm, .ref pf, .int n9])), (pm, .inl (cI, 224, .inl m9)), (pf, .inl (cI, 224, .inl f9))]) hP hD [0, 1, 2, 3, 4, 5, 6, 7, 8, 9] [10] [1, 2, 3, 4, 5, 6, 7, 8, 9, 10, 0] rfl rfl (by decide) (by decide) hk1 hB rfl rfl rfl (by decide)
    generalize H1 = H at hP hS hce ⊢
    rcases hE with ⟨rfl, hk⟩
    · have hkn : ¬ k1 (inR u 0 60) = 0 := by rw [hk]; decide
      refine c_catch (L0 := L0) hown hE0 (Or.inl rfl) [] ⟨0, 9, 12, 13⟩ [] (htb.trans rfl) (fun z9 h9 => absurd h9 List.not_mem_nil) (by decide) (by decide) (hts (.classLink RL 13 xIAE) (by decide +kernel)) hce hcv hcl ?_
      show W _ _ _ _ _ _ _ _ _ _ _ _ _ _ _ (F0 m 12 ls [.ref q9])
      refine lv_astore_n (lv' := [(3, .ref q9), (0, .ref x), (1, .int u), (2, .ref qo)]) hx hb dL_bestOutrigger_12 rfl hl (by decide) rfl (fun ls hl => ?_)
      refine lv_iconst (v := 1) hx hb dL_bestOutrigger_13 (by decide) ?_
      refine W.widen (k := 1) (n := 6) (Nat.le_of_ble_eq_true rfl) (Nat.le_of_ble_eq_true rfl) ?_
      exact W.iret (v := 1) hx hb hRt (fun t ht hW => ⟨⟨by rw [hk], by rw [ht]; exact ⟨g0, _, _, _, _, _, _, (fun h => absurd h hkn), hP⟩⟩, hS.F ht⟩) hS.2.2 dL_bestOutrigger_14
  · obtain ⟨hk0, p9, o9, l9, n9, m9, f9, hB⟩ := hB
    obtain ⟨hP, hD⟩ := c_join (ws' := [(x, .inr (2, [.ref rg, .ref tr, .ref pn, .int (nI d), .int (nI r), .int ld, .int li, .int tl, .int mo])), (rg, .inr (1, [.ref ro, .ref rl, .int pl])), (ro, .inl (cI, 4, .inl fo)), (rl, .inl (cI, 28, .inl (sh fl))), (tr, .inr (1, [.ref t0, .ref t1, .int p9])), (t0, .inl (cI, 4, .inl o9)), (t1, .inl (cI, 28, .inl l9)), (pn, .inr (0, [.ref pm, .ref pf, .int n9])), (pm, .inl (cI, 224, .inl m9)), (pf, .inl (cI, 224, .inl f9)), (qo, .inl (cJ, 1, .inr (.inl g0)))]) (wr := [(qo, .inl (cJ, 1, .inr (.inl g0)))]) (w1 := [(x, .inr (2, [.ref rg, .ref tr, .ref pn, .int (nI d), .int (nI r), .int ld, .int li, .int tl, .int mo])), (rg, .inr (1, [.ref ro, .ref rl, .int pl])), (ro, .inl (cI, 4, .inl fo)), (rl, .inl (cI, 28, .inl (sh fl))), (tr, .inr (1, [.ref t0, .ref t1, .int p9])), (t0, .inl (cI, 4, .inl o9)), (t1, .inl (cI, 28, .inl l9)), (pn, .inr (0, [.ref pm, .ref pf, .int n9])), (pm, .inl (cI, 224, .inl m9)), (pf, .inl (cI, 224, .inl f9))]) hP hD [0, 1, 2, 3, 4, 5, 6, 7, 8, 9] [10] [1, 2, 3, 4, 5, 6, 7, 8, 9, 10, 0] rfl rfl (by decide) (by decide) hk1 hB rfl rfl rfl (by decide)
    generalize H1 = H at hP hS ⊢
    show W _ _ _ _ _ _ _ _ _ _ _ _ _ _ _ (F0 m 7 ls [.int ((boN (canS fo) (ownS fo fl pl u d r) 4).1), .int 0, .ref qo])
    refine lv_i2l hx hb dL_bestOutrigger_7 rfl ?_
    refine va_last hx hb hK hP hD hS 10 1 rfl rfl (vp_in_nI (n := 0) (by decide) (by decide)) dL_bestOutrigger_8 (fun H locs hP hD hS => ?_)
    have hP : va_P D vwCl [(x, .inr (2, [.ref rg, .ref tr, .ref pn, .int (nI d), .int (nI r), .int ld, .int li, .int tl, .int mo])), (rg, .inr (1, [.ref ro, .ref rl, .int pl])), (ro, .inl (cI, 4, .inl fo)), (rl, .inl (cI, 28, .inl (sh fl))), (tr, .inr (1, [.ref t0, .ref t1, .int p9])), (t0, .inl (cI, 4, .inl o9)), (t1, .inl (cI, 28, .inl l9)), (pn, .inr (0, [.ref pm, .ref pf, .int n9])), (pm, .inl (cI, 224, .inl m9)), (pf, .inl (cI, 224, .inl f9)), (qo, .inl (cJ, 1, .inr (.inl (vp_updL g0 0 (((boN (canS fo) (ownS fo fl pl u d r) 4).1).toInt64)))))] H := hP
    have hD : va_D A [(x, .inr (2, [.ref rg, .ref tr, .ref pn, .int (nI d), .int (nI r), .int ld, .int li, .int tl, .int mo])), (rg, .inr (1, [.ref ro, .ref rl, .int pl])), (ro, .inl (cI, 4, .inl fo)), (rl, .inl (cI, 28, .inl (sh fl))), (tr, .inr (1, [.ref t0, .ref t1, .int p9])), (t0, .inl (cI, 4, .inl o9)), (t1, .inl (cI, 28, .inl l9)), (pn, .inr (0, [.ref pm, .ref pf, .int n9])), (pm, .inl (cI, 224, .inl m9)), (pf, .inl (cI, 224, .inl f9)), (qo, .inl (cJ, 1, .inr (.inl (vp_updL g0 0 (((boN (canS fo) (ownS fo fl pl u d r) 4).1).toInt64)))))] := hD
    refine lv_goto (tgt := 15) hx hb dL_bestOutrigger_9 (by decide) ?_
    refine lv_iconst (v := 0) hx hb dL_bestOutrigger_15 (by decide) ?_
    refine W.widen (k := 1) (n := 6) (Nat.le_of_ble_eq_true rfl) (Nat.le_of_ble_eq_true rfl) ?_
    exact W.iret (v := 0) hx hb hRt (fun t ht hW => ⟨⟨by rw [hk0], by rw [ht]; exact ⟨vp_updL g0 0 (((boN (canS fo) (ownS fo fl pl u d r) 4).1).toInt64), _, _, _, _, _, _, (fun _ => pk_uLs), hP⟩⟩, hS.F ht⟩) hS.2.2 dL_bestOutrigger_16
