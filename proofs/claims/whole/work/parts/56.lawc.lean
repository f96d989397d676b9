set_option maxHeartbeats 4000000 in
set_option maxRecDepth 100000 in
/-- the law: outrigger -/
theorem law_c11 {p : Program} {l : Launch} {e : Env} {s : State} {m : MethodId} {args : Array Value} {below : List Frame} {meth : Method} {c : Code} {Q : State → Prop} {b L : Nat} {xs : Nat → Int32} {L0 : Nat} {D : va_G} {cI cJ : ClassId} {x rg tr pn ro rl t0 t1 pm pf mm ao al aw aq qo : Nat} (C0 : lwCtx p l s m args c b L xs L0 D cI cJ) {i K M : Nat} {v u z : Int32} (hv1 : xs (nI i + 1).toNatClampNeg = v) (hv2 : xs (nI i + 2).toNatClampNeg = u) (hv3 : xs (nI i + 3).toNatClampNeg = z) (hi1 : vp_in (nI i + 1) L) (hi2 : vp_in (nI i + 2) L) (hi3 : vp_in (nI i + 3) L) (hKr : K + 4 ≤ 601024) (hMr : M + 32 ≤ 7293034) (nx : lwNext p l e s m args below meth c Q b L0 D cI cJ x rg tr pn ro rl t0 t1 pm pf mm ao al aw aq qo 1459 i (K + 4) (M + 32)) (d r : Nat) (ld li tl mo pl : Int32) (fo fl : Nat → Int32) (jp : Int32) (jo jl : Nat → Int32) (jn : Int32) (jm jf : Nat → Int32) (th mn : Int32) (fa fq : Nat → Int32) (g0 : Nat → Int64) (H : Heap) (ls : Array Slot) (hI : lwInv d r ld pl fo fl) (hP : va_P D vwCl [(x, .inr (2, [.ref rg, .ref tr, .ref pn, .int (nI d), .int (nI r), .int ld, .int li, .int tl, .int mo])), (rg, .inr (1, [.ref ro, .ref rl, .int pl])), (ro, .inl (cI, 4, .inl fo)), (rl, .inl (cI, 28, .inl (sh fl))), (tr, .inr (1, [.ref t0, .ref t1, .int jp])), (t0, .inl (cI, 4, .inl jo)), (t1, .inl (cI, 28, .inl jl)), (pn, .inr (0, [.ref pm, .ref pf, .int jn])), (pm, .inl (cI, 224, .inl jm)), (pf, .inl (cI, 224, .inl jf)), (mm, .inr (3, [.int th, .int (nI d), .int (nI r), .int ld, .int pl, .ref ao, .ref al, .int li, .int tl, .int mo, .ref aw, .ref aq, .int mn])), (ao, .inl (cI, 4, .inl fo)), (al, .inl (cI, 31, .inl fl)), (aw, .inl (cI, 248, .inl fa)), (aq, .inl (cI, 248, .inl fq)), (qo, .inl (cJ, 1, .inr (.inl g0)))] H) (hD : va_D (fun z9 : Nat => L0 ≤ z9) [(x, .inr (2, [.ref rg, .ref tr, .ref pn, .int (nI d), .int (nI r), .int ld, .int li, .int tl, .int mo])), (rg, .inr (1, [.ref ro, .ref rl, .int pl])), (ro, .inl (cI, 4, .inl fo)), (rl, .inl (cI, 28, .inl (sh fl))), (tr, .inr (1, [.ref t0, .ref t1, .int jp])), (t0, .inl (cI, 4, .inl jo)), (t1, .inl (cI, 28, .inl jl)), (pn, .inr (0, [.ref pm, .ref pf, .int jn])), (pm, .inl (cI, 224, .inl jm)), (pf, .inl (cI, 224, .inl jf)), (mm, .inr (3, [.int th, .int (nI d), .int (nI r), .int ld, .int pl, .ref ao, .ref al, .int li, .int tl, .int mo, .ref aw, .ref aq, .int mn])), (ao, .inl (cI, 4, .inl fo)), (al, .inl (cI, 31, .inl fl)), (aw, .inl (cI, 248, .inl fa)), (aq, .inl (cI, 248, .inl fq)), (qo, .inl (cJ, 1, .inr (.inl g0)))]) (hS : va_S (fun z9 : Nat => L0 ≤ z9) s.heap H []) (hl : lv_has ls 9 [(0, .ref b), (1, .ref x), (2, .ref mm), (3, .ref qo), (4, .int (nI i))]) : W p l e room_1 s m args below meth c H [] K M Q (F0 m 676 ls []) := by
  obtain ⟨hx, hb, hml, hown, hts, hX, hbl, hL0, hK, hE0, hfl⟩ := id C0
  have hAL : ∀ z9 : Nat, (fun z9 : Nat => L0 ≤ z9) z9 → L0 ≤ z9 := fun _ h9 => h9
  have hbA : ¬ (fun z9 : Nat => L0 ≤ z9) b := by show ¬ L0 ≤ b; exact Nat.not_le.mpr (hL0 ▸ hbl)
  refine lv_aload_n hx hb dL_law_676 rfl (lv_at hl 1 rfl) ?_
  refine lv_aload_n hx hb dL_law_677 rfl (lv_at hl 0 rfl) ?_
  refine lv_iload hx hb dL_law_678 (lv_at hl 4 rfl) ?_
  refine lv_iconst (v := 1) hx hb dL_law_680 (by decide) ?_
  refine lv_iadd hx hb dL_law_681 ?_
  refine va_sld hx hb hX hbl hbA hS hi1 dL_law_682 ?_
  refine c_top hv1 ?_
  refine lv_aload_n hx hb dL_law_683 rfl (lv_at hl 3 rfl) ?_
  have hPc := hP.sub (ws' := [(x, .inr (2, [.ref rg, .ref tr, .ref pn, .int (nI d), .int (nI r), .int ld, .int li, .int tl, .int mo])), (rg, .inr (1, [.ref ro, .ref rl, .int pl])), (ro, .inl (cI, 4, .inl fo)), (rl, .inl (cI, 28, .inl (sh fl))), (qo, .inl (cJ, 1, .inr (.inl g0)))]) [0, 1, 2, 3, 15] rfl
  have hDc : va_D (fun z9 : Nat => L0 ≤ z9) [(x, .inr (2, [.ref rg, .ref tr, .ref pn, .int (nI d), .int (nI r), .int ld, .int li, .int tl, .int mo])), (rg, .inr (1, [.ref ro, .ref rl, .int pl])), (ro, .inl (cI, 4, .inl fo)), (rl, .inl (cI, 28, .inl (sh fl))), (qo, .inl (cJ, 1, .inr (.inl g0)))] := hD.sub (ws' := [(x, .inr (2, [.ref rg, .ref tr, .ref pn, .int (nI d), .int (nI r), .int ld, .int li, .int tl, .int mo])), (rg, .inr (1, [.ref ro, .ref rl, .int pl])), (ro, .inl (cI, 4, .inl fo)), (rl, .inl (cI, 28, .inl (sh fl))), (qo, .inl (cJ, 1, .inr (.inl g0)))]) [0, 1, 2, 3, 15] (by decide) rfl
  have hKc := hK.sub (tys' := [(cI, .int), (cJ, .long)]) [0, 1] rfl
  refine c_callB (vx_runSW (As := [.ref x, .int v, .ref qo]) (rest := []) ⟨hx, hb, hml, hown, hts⟩ (w_outrigger l hfl D L0 cI cJ x rg tr pn ro rl d r ld li tl mo pl fo fl qo g0 v hI.1 hI.2.1) (vx_cwSW 3 hts gL_law_L_outrigger rfl rfl rfl (by decide +kernel) ⟨Nat.le_of_ble_eq_true rfl, Nat.le_of_ble_eq_true rfl⟩) ⟨cP_blind, cP_of hPc hKc hDc (kE_at hE0 hAL hS)⟩ rfl rfl hl.1 rfl (lv_room (Nat.le_of_ble_eq_true rfl)) dL_law_684 ⟨by show K + 1 ≤ 601024; omega, by show M + 6 ≤ 7293034; omega⟩) hS (fun z9 _ ⟨k9, e9, h9⟩ => hDc.2 k9 (z9, e9) h9) (fun z9 ⟨k9, e9, h9⟩ => hDc.2 k9 (z9, e9) h9) (fun H1 locs hB hz1 hk1 hS => ?_)
  obtain ⟨g9, hg9, hB⟩ := hB
  obtain ⟨hP, hD⟩ := c_join (ws' := [(x, .inr (2, [.ref rg, .ref tr, .ref pn, .int (nI d), .int (nI r), .int ld, .int li, .int tl, .int mo])), (rg, .inr (1, [.ref ro, .ref rl, .int pl])), (ro, .inl (cI, 4, .inl fo)), (rl, .inl (cI, 28, .inl (sh fl))), (tr, .inr (1, [.ref t0, .ref t1, .int jp])), (t0, .inl (cI, 4, .inl jo)), (t1, .inl (cI, 28, .inl jl)), (pn, .inr (0, [.ref pm, .ref pf, .int jn])), (pm, .inl (cI, 224, .inl jm)), (pf, .inl (cI, 224, .inl jf)), (mm, .inr (3, [.int th, .int (nI d), .int (nI r), .int ld, .int pl, .ref ao, .ref al, .int li, .int tl, .int mo, .ref aw, .ref aq, .int mn])), (ao, .inl (cI, 4, .inl fo)), (al, .inl (cI, 31, .inl fl)), (aw, .inl (cI, 248, .inl fa)), (aq, .inl (cI, 248, .inl fq)), (qo, .inl (cJ, 1, .inr (.inl g9)))]) (wr := [(tr, .inr (1, [.ref t0, .ref t1, .int jp])), (t0, .inl (cI, 4, .inl jo)), (t1, .inl (cI, 28, .inl jl)), (pn, .inr (0, [.ref pm, .ref pf, .int jn])), (pm, .inl (cI, 224, .inl jm)), (pf, .inl (cI, 224, .inl jf)), (mm, .inr (3, [.int th, .int (nI d), .int (nI r), .int ld, .int pl, .ref ao, .ref al, .int li, .int tl, .int mo, .ref aw, .ref aq, .int mn])), (ao, .inl (cI, 4, .inl fo)), (al, .inl (cI, 31, .inl fl)), (aw, .inl (cI, 248, .inl fa)), (aq, .inl (cI, 248, .inl fq))]) (w1 := [(x, .inr (2, [.ref rg, .ref tr, .ref pn, .int (nI d), .int (nI r), .int ld, .int li, .int tl, .int mo])), (rg, .inr (1, [.ref ro, .ref rl, .int pl])), (ro, .inl (cI, 4, .inl fo)), (rl, .inl (cI, 28, .inl (sh fl))), (qo, .inl (cJ, 1, .inr (.inl g9)))]) hP hD [0, 1, 2, 3, 15] [4, 5, 6, 7, 8, 9, 10, 11, 12, 13, 14] [11, 12, 13, 14, 0, 1, 2, 3, 4, 5, 6, 7, 8, 9, 10, 15] rfl rfl (by decide) (by decide) hk1 hB rfl rfl rfl (by decide)
  generalize H1 = H at hP hS ⊢
  show W _ _ _ _ _ _ _ _ _ _ _ _ _ _ _ (F0 m 687 ls [.int (k1 (inR v 0 3))])
  refine W.widen (k := K + 4) (n := M + 32) (by omega) (by omega) ?_
  refine lv_istore (lv' := [(5, .int (k1 (inR v 0 3))), (0, .ref b), (1, .ref x), (2, .ref mm), (3, .ref qo), (4, .int (nI i))]) hx hb dL_law_687 hl (by decide) rfl (fun ls hl => ?_)
  refine lv_aload_n hx hb dL_law_689 rfl (lv_at hl 3 rfl) ?_
  refine lv_aload_n hx hb dL_law_690 rfl (lv_at hl 1 rfl) ?_
  refine lv_iload hx hb dL_law_691 (lv_at hl 5 rfl) ?_
  refine lv_iconst (v := 1) hx hb dL_law_693 (by decide) ?_
  refine lv_iadd hx hb dL_law_694 ?_
  refine va_sld hx hb hX hbl hbA hS hi1 dL_law_695 ?_
  refine c_top hv1 ?_
  have hPc := hP.sub (ws' := [(mm, .inr (3, [.int th, .int (nI d), .int (nI r), .int ld, .int pl, .ref ao, .ref al, .int li, .int tl, .int mo, .ref aw, .ref aq, .int mn])), (ao, .inl (cI, 4, .inl fo)), (al, .inl (cI, 31, .inl fl))]) [10, 11, 12] rfl
  have hDc : va_D (fun z9 : Nat => L0 ≤ z9) [(mm, .inr (3, [.int th, .int (nI d), .int (nI r), .int ld, .int pl, .ref ao, .ref al, .int li, .int tl, .int mo, .ref aw, .ref aq, .int mn])), (ao, .inl (cI, 4, .inl fo)), (al, .inl (cI, 31, .inl fl))] := hD.sub (ws' := [(mm, .inr (3, [.int th, .int (nI d), .int (nI r), .int ld, .int pl, .ref ao, .ref al, .int li, .int tl, .int mo, .ref aw, .ref aq, .int mn])), (ao, .inl (cI, 4, .inl fo)), (al, .inl (cI, 31, .inl fl))]) [10, 11, 12] (by decide) rfl
  have hKc := hK.sub (tys' := [(cI, .int)]) [0] rfl
  refine c_callB (va_runV (As := [.int v]) (rest := []) ⟨hx, hb, hml, hown, hts⟩ (q_outrigger l D L0 cI mm ao al aw aq d r th ld pl li tl mo mn fo fl v) (cwV 1 hts gL_law_X3_outrigger rfl rfl rfl (by decide +kernel) ⟨Nat.le_of_ble_eq_true rfl, Nat.le_of_ble_eq_true rfl⟩) ⟨cP_blind, va_recv hKc hPc (ci := 3) (q0 := 0) rfl rfl, cP_of hPc hKc hDc (kE_at hE0 hAL hS)⟩ rfl rfl hl.1 rfl (lv_room (Nat.le_of_ble_eq_true rfl)) dL_law_696 ⟨by show K + 4 + 0 ≤ 601024; omega, by show M + 32 + 0 ≤ 7293034; omega⟩) hS (fun z9 _ ⟨k9, e9, h9⟩ => hDc.2 k9 (z9, e9) h9) (fun z9 ⟨k9, e9, h9⟩ => hDc.2 k9 (z9, e9) h9) (fun H1 locs hB hz1 hk1 hS => ?_)
  obtain ⟨hP, hD⟩ := c_join (ws' := [(x, .inr (2, [.ref rg, .ref tr, .ref pn, .int (nI d), .int (nI r), .int ld, .int li, .int tl, .int mo])), (rg, .inr (1, [.ref ro, .ref rl, .int pl])), (ro, .inl (cI, 4, .inl fo)), (rl, .inl (cI, 28, .inl (sh fl))), (tr, .inr (1, [.ref t0, .ref t1, .int jp])), (t0, .inl (cI, 4, .inl jo)), (t1, .inl (cI, 28, .inl jl)), (pn, .inr (0, [.ref pm, .ref pf, .int jn])), (pm, .inl (cI, 224, .inl jm)), (pf, .inl (cI, 224, .inl jf)), (mm, .inr (3, [.int (k1 (inR v 0 3)), .int (nI d), .int (nI r), .int ld, .int pl, .ref ao, .ref al, .int li, .int tl, .int mo, .ref aw, .ref aq, .int mn])), (ao, .inl (cI, 4, .inl fo)), (al, .inl (cI, 31, .inl fl)), (aw, .inl (cI, 248, .inl fa)), (aq, .inl (cI, 248, .inl fq)), (qo, .inl (cJ, 1, .inr (.inl g9)))]) (wr := [(x, .inr (2, [.ref rg, .ref tr, .ref pn, .int (nI d), .int (nI r), .int ld, .int li, .int tl, .int mo])), (rg, .inr (1, [.ref ro, .ref rl, .int pl])), (ro, .inl (cI, 4, .inl fo)), (rl, .inl (cI, 28, .inl (sh fl))), (tr, .inr (1, [.ref t0, .ref t1, .int jp])), (t0, .inl (cI, 4, .inl jo)), (t1, .inl (cI, 28, .inl jl)), (pn, .inr (0, [.ref pm, .ref pf, .int jn])), (pm, .inl (cI, 224, .inl jm)), (pf, .inl (cI, 224, .inl jf)), (aw, .inl (cI, 248, .inl fa)), (aq, .inl (cI, 248, .inl fq)), (qo, .inl (cJ, 1, .inr (.inl g9)))]) (w1 := [(mm, .inr (3, [.int (k1 (inR v 0 3)), .int (nI d), .int (nI r), .int ld, .int pl, .ref ao, .ref al, .int li, .int tl, .int mo, .ref aw, .ref aq, .int mn])), (ao, .inl (cI, 4, .inl fo)), (al, .inl (cI, 31, .inl fl))]) hP hD [10, 11, 12] [0, 1, 2, 3, 4, 5, 6, 7, 8, 9, 13, 14, 15] [0, 1, 2, 3, 4, 5, 6, 7, 8, 9, 13, 14, 15, 10, 11, 12] rfl rfl (by decide) (by decide) hk1 hB rfl rfl rfl (by decide)
  generalize H1 = H at hP hS ⊢
  show W _ _ _ _ _ _ _ _ _ _ _ _ _ _ _ (F0 m 699 ls [.int (if k1 (inR v 0 3) = 0 then fo v.toNatClampNeg else 0)])
  refine lv_istore (lv' := [(6, .int (if k1 (inR v 0 3) = 0 then fo v.toNatClampNeg else 0)), (5, .int (k1 (inR v 0 3))), (0, .ref b), (1, .ref x), (2, .ref mm), (3, .ref qo), (4, .int (nI i))]) hx hb dL_law_699 hl (by decide) rfl (fun ls hl => ?_)
  refine lv_aload_n hx hb dL_law_701 rfl (lv_at hl 4 rfl) ?_
  have hPc := hP.sub (ws' := [(mm, .inr (3, [.int (k1 (inR v 0 3)), .int (nI d), .int (nI r), .int ld, .int pl, .ref ao, .ref al, .int li, .int tl, .int mo, .ref aw, .ref aq, .int mn]))]) [10] rfl
  have hDc : va_D (fun z9 : Nat => L0 ≤ z9) [(mm, .inr (3, [.int (k1 (inR v 0 3)), .int (nI d), .int (nI r), .int ld, .int pl, .ref ao, .ref al, .int li, .int tl, .int mo, .ref aw, .ref aq, .int mn]))] := hD.sub (ws' := [(mm, .inr (3, [.int (k1 (inR v 0 3)), .int (nI d), .int (nI r), .int ld, .int pl, .ref ao, .ref al, .int li, .int tl, .int mo, .ref aw, .ref aq, .int mn]))]) [10] (by decide) rfl
  have hKc := hK.sub (tys' := []) [] rfl
  refine c_callR (va_runV (As := []) (rest := []) ⟨hx, hb, hml, hown, hts⟩ (q_thrown l D L0 mm ao al aw aq d r (k1 (inR v 0 3)) ld pl li tl mo mn) (cwV 0 hts gL_law_X3_thrown rfl rfl rfl (by decide +kernel) ⟨Nat.le_of_ble_eq_true rfl, Nat.le_of_ble_eq_true rfl⟩) ⟨cP_blind, va_recv hKc hPc (ci := 3) (q0 := 0) rfl rfl, cP_of hPc hKc hDc (kE_at hE0 hAL hS)⟩ rfl rfl hl.1 rfl (lv_room (Nat.le_of_ble_eq_true rfl)) dL_law_702 ⟨by show K + 4 + 0 ≤ 601024; omega, by show M + 32 + 0 ≤ 7293034; omega⟩) ?_
  show W _ _ _ _ _ _ _ _ _ _ _ _ _ _ _ (F0 m 705 ls [.int (k1 (inR v 0 3))])
  refine lv_iload hx hb dL_law_705 (lv_at hl 1 rfl) ?_
  refine lv_icmp_eq (tgt := 712) hx hb dL_law_707 (by decide) (fun _ => ?_) (fun c_88 => absurd (rfl) c_88)
  refine lv_iload hx hb dL_law_712 (lv_at hl 1 rfl) ?_
  refine lv_if_ne (tgt := 729) hx hb dL_law_714 (by decide) (fun c_89 => ?_) (fun c_89 => ?_)
  · refine lv_goto (tgt := 1459) hx hb dL_law_729 (by decide) ?_
    refine va_forget (fun z9 hz => by rw [hL0]; exact hS.2.2 z9 hz) ?_
    exact nx d r ld li tl mo pl fo fl jp jo jl jn jm jf (k1 (inR v 0 3)) mn fa fq g9 H ls (hI) hP hD ⟨hS.1, hS.2.1, fun _ hz => absurd hz List.not_mem_nil⟩ (lv_sub hl [2, 3, 4, 5, 6] rfl)
  · refine lv_aload_n hx hb dL_law_717 rfl (lv_at hl 5 rfl) ?_
    refine lv_iconst (v := 0) hx hb dL_law_718 (by decide) ?_
    refine va_lald hx hb hK hP 15 1 rfl rfl (vp_in_nI (n := 0) (by decide) (by decide)) dL_law_719 ?_
    refine c_topl (show g9 (0 : Int32).toNatClampNeg = (fo v.toNatClampNeg).toInt64 from hg9 c_89) ?_
    refine lv_iload hx hb dL_law_720 (lv_at hl 0 rfl) ?_
    refine lv_i2l hx hb dL_law_722 rfl ?_
    refine c_topl (show (if k1 (inR v 0 3) = 0 then fo v.toNatClampNeg else 0).toInt64 = (fo v.toNatClampNeg).toInt64 from by rw [if_pos c_89]) ?_
    refine c_lcmp hx hb dL_law_723 ?_
    refine lv_if_eq (tgt := 729) hx hb dL_law_724 (by decide) (fun _ => ?_) (fun c_90 => absurd (rfl) c_90)
    refine lv_goto (tgt := 1459) hx hb dL_law_729 (by decide) ?_
    refine va_forget (fun z9 hz => by rw [hL0]; exact hS.2.2 z9 hz) ?_
    exact nx d r ld li tl mo pl fo fl jp jo jl jn jm jf (k1 (inR v 0 3)) mn fa fq g9 H ls (hI) hP hD ⟨hS.1, hS.2.1, fun _ hz => absurd hz List.not_mem_nil⟩ (lv_sub hl [2, 3, 4, 5, 6] rfl)
set_option maxHeartbeats 4000000 in
set_option maxRecDepth 100000 in
/-- the law: limitAt -/
theorem law_c12 {p : Program} {l : Launch} {e : Env} {s : State} {m : MethodId} {args : Array Value} {below : List Frame} {meth : Method} {c : Code} {Q : State → Prop} {b L : Nat} {xs : Nat → Int32} {L0 : Nat} {D : va_G} {cI cJ : ClassId} {x rg tr pn ro rl t0 t1 pm pf mm ao al aw aq qo : Nat} (C0 : lwCtx p l s m args c b L xs L0 D cI cJ) {i K M : Nat} {v u z : Int32} (hv1 : xs (nI i + 1).toNatClampNeg = v) (hv2 : xs (nI i + 2).toNatClampNeg = u) (hv3 : xs (nI i + 3).toNatClampNeg = z) (hi1 : vp_in (nI i + 1) L) (hi2 : vp_in (nI i + 2) L) (hi3 : vp_in (nI i + 3) L) (hKr : K + 4 ≤ 601024) (hMr : M + 32 ≤ 7293034) (nx : lwNext p l e s m args below meth c Q b L0 D cI cJ x rg tr pn ro rl t0 t1 pm pf mm ao al aw aq qo 1459 i (K + 4) (M + 32)) (d r : Nat) (ld li tl mo pl : Int32) (fo fl : Nat → Int32) (jp : Int32) (jo jl : Nat → Int32) (jn : Int32) (jm jf : Nat → Int32) (th mn : Int32) (fa fq : Nat → Int32) (g0 : Nat → Int64) (H : Heap) (ls : Array Slot) (hI : lwInv d r ld pl fo fl) (hP : va_P D vwCl [(x, .inr (2, [.ref rg, .ref tr, .ref pn, .int (nI d), .int (nI r), .int ld, .int li, .int tl, .int mo])), (rg, .inr (1, [.ref ro, .ref rl, .int pl])), (ro, .inl (cI, 4, .inl fo)), (rl, .inl (cI, 28, .inl (sh fl))), (tr, .inr (1, [.ref t0, .ref t1, .int jp])), (t0, .inl (cI, 4, .inl jo)), (t1, .inl (cI, 28, .inl jl)), (pn, .inr (0, [.ref pm, .ref pf, .int jn])), (pm, .inl (cI, 224, .inl jm)), (pf, .inl (cI, 224, .inl jf)), (mm, .inr (3, [.int th, .int (nI d), .int (nI r), .int ld, .int pl, .ref ao, .ref al, .int li, .int tl, .int mo, .ref aw, .ref aq, .int mn])), (ao, .inl (cI, 4, .inl fo)), (al, .inl (cI, 31, .inl fl)), (aw, .inl (cI, 248, .inl fa)), (aq, .inl (cI, 248, .inl fq)), (qo, .inl (cJ, 1, .inr (.inl g0)))] H) (hD : va_D (fun z9 : Nat => L0 ≤ z9) [(x, .inr (2, [.ref rg, .ref tr, .ref pn, .int (nI d), .int (nI r), .int ld, .int li, .int tl, .int mo])), (rg, .inr (1, [.ref ro, .ref rl, .int pl])), (ro, .inl (cI, 4, .inl fo)), (rl, .inl (cI, 28, .inl (sh fl))), (tr, .inr (1, [.ref t0, .ref t1, .int jp])), (t0, .inl (cI, 4, .inl jo)), (t1, .inl (cI, 28, .inl jl)), (pn, .inr (0, [.ref pm, .ref pf, .int jn])), (pm, .inl (cI, 224, .inl jm)), (pf, .inl (cI, 224, .inl jf)), (mm, .inr (3, [.int th, .int (nI d), .int (nI r), .int ld, .int pl, .ref ao, .ref al, .int li, .int tl, .int mo, .ref aw, .ref aq, .int mn])), (ao, .inl (cI, 4, .inl fo)), (al, .inl (cI, 31, .inl fl)), (aw, .inl (cI, 248, .inl fa)), (aq, .inl (cI, 248, .inl fq)), (qo, .inl (cJ, 1, .inr (.inl g0)))]) (hS : va_S (fun z9 : Nat => L0 ≤ z9) s.heap H []) (hl : lv_has ls 9 [(0, .ref b), (1, .ref x), (2, .ref mm), (3, .ref qo), (4, .int (nI i))]) : W p l e room_1 s m args below meth c H [] K M Q (F0 m 732 ls []) := by
  obtain ⟨hx, hb, hml, hown, hts, hX, hbl, hL0, hK, hE0, hfl⟩ := id C0
  have hAL : ∀ z9 : Nat, (fun z9 : Nat => L0 ≤ z9) z9 → L0 ≤ z9 := fun _ h9 => h9
  have hbA : ¬ (fun z9 : Nat => L0 ≤ z9) b := by show ¬ L0 ≤ b; exact Nat.not_le.mpr (hL0 ▸ hbl)
  refine lv_aload_n hx hb dL_law_732 rfl (lv_at hl 1 rfl) ?_
  refine lv_aload_n hx hb dL_law_733 rfl (lv_at hl 0 rfl) ?_
  refine lv_iload hx hb dL_law_734 (lv_at hl 4 rfl) ?_
  refine lv_iconst (v := 1) hx hb dL_law_736 (by decide) ?_
  refine lv_iadd hx hb dL_law_737 ?_
  refine va_sld hx hb hX hbl hbA hS hi1 dL_law_738 ?_
  refine c_top hv1 ?_
  refine lv_aload_n hx hb dL_law_739 rfl (lv_at hl 3 rfl) ?_
  have hPc := hP.sub (ws' := [(x, .inr (2, [.ref rg, .ref tr, .ref pn, .int (nI d), .int (nI r), .int ld, .int li, .int tl, .int mo])), (rg, .inr (1, [.ref ro, .ref rl, .int pl])), (ro, .inl (cI, 4, .inl fo)), (rl, .inl (cI, 28, .inl (sh fl))), (qo, .inl (cJ, 1, .inr (.inl g0)))]) [0, 1, 2, 3, 15] rfl
  have hDc : va_D (fun z9 : Nat => L0 ≤ z9) [(x, .inr (2, [.ref rg, .ref tr, .ref pn, .int (nI d), .int (nI r), .int ld, .int li, .int tl, .int mo])), (rg, .inr (1, [.ref ro, .ref rl, .int pl])), (ro, .inl (cI, 4, .inl fo)), (rl, .inl (cI, 28, .inl (sh fl))), (qo, .inl (cJ, 1, .inr (.inl g0)))] := hD.sub (ws' := [(x, .inr (2, [.ref rg, .ref tr, .ref pn, .int (nI d), .int (nI r), .int ld, .int li, .int tl, .int mo])), (rg, .inr (1, [.ref ro, .ref rl, .int pl])), (ro, .inl (cI, 4, .inl fo)), (rl, .inl (cI, 28, .inl (sh fl))), (qo, .inl (cJ, 1, .inr (.inl g0)))]) [0, 1, 2, 3, 15] (by decide) rfl
  have hKc := hK.sub (tys' := [(cI, .int), (cJ, .long)]) [0, 1] rfl
  refine c_callB (vx_runSW (As := [.ref x, .int v, .ref qo]) (rest := []) ⟨hx, hb, hml, hown, hts⟩ (w_limitAt l hfl D L0 cI cJ x rg tr pn ro rl d r ld li tl mo pl fo fl qo g0 v hI.1 hI.2.1) (vx_cwSW 3 hts gL_law_L_limitAt rfl rfl rfl (by decide +kernel) ⟨Nat.le_of_ble_eq_true rfl, Nat.le_of_ble_eq_true rfl⟩) ⟨cP_blind, cP_of hPc hKc hDc (kE_at hE0 hAL hS)⟩ rfl rfl hl.1 rfl (lv_room (Nat.le_of_ble_eq_true rfl)) dL_law_740 ⟨by show K + 1 ≤ 601024; omega, by show M + 6 ≤ 7293034; omega⟩) hS (fun z9 _ ⟨k9, e9, h9⟩ => hDc.2 k9 (z9, e9) h9) (fun z9 ⟨k9, e9, h9⟩ => hDc.2 k9 (z9, e9) h9) (fun H1 locs hB hz1 hk1 hS => ?_)
  obtain ⟨g9, hg9, hB⟩ := hB
  obtain ⟨hP, hD⟩ := c_join (ws' := [(x, .inr (2, [.ref rg, .ref tr, .ref pn, .int (nI d), .int (nI r), .int ld, .int li, .int tl, .int mo])), (rg, .inr (1, [.ref ro, .ref rl, .int pl])), (ro, .inl (cI, 4, .inl fo)), (rl, .inl (cI, 28, .inl (sh fl))), (tr, .inr (1, [.ref t0, .ref t1, .int jp])), (t0, .inl (cI, 4, .inl jo)), (t1, .inl (cI, 28, .inl jl)), (pn, .inr (0, [.ref pm, .ref pf, .int jn])), (pm, .inl (cI, 224, .inl jm)), (pf, .inl (cI, 224, .inl jf)), (mm, .inr (3, [.int th, .int (nI d), .int (nI r), .int ld, .int pl, .ref ao, .ref al, .int li, .int tl, .int mo, .ref aw, .ref aq, .int mn])), (ao, .inl (cI, 4, .inl fo)), (al, .inl (cI, 31, .inl fl)), (aw, .inl (cI, 248, .inl fa)), (aq, .inl (cI, 248, .inl fq)), (qo, .inl (cJ, 1, .inr (.inl g9)))]) (wr := [(tr, .inr (1, [.ref t0, .ref t1, .int jp])), (t0, .inl (cI, 4, .inl jo)), (t1, .inl (cI, 28, .inl jl)), (pn, .inr (0, [.ref pm, .ref pf, .int jn])), (pm, .inl (cI, 224, .inl jm)), (pf, .inl (cI, 224, .inl jf)), (mm, .inr (3, [.int th, .int (nI d), .int (nI r), .int ld, .int pl, .ref ao, .ref al, .int li, .int tl, .int mo, .ref aw, .ref aq, .int mn])), (ao, .inl (cI, 4, .inl fo)), (al, .inl (cI, 31, .inl fl)), (aw, .inl (cI, 248, .inl fa)), (aq, .inl (cI, 248, .inl fq))]) (w1 := [(x, .inr (2, [.ref rg, .ref tr, .ref pn, .int (nI d), .int (nI r), .int ld, .int li, .int tl, .int mo])), (rg, .inr (1, [.ref ro, .ref rl, .int pl])), (ro, .inl (cI, 4, .inl fo)), (rl, .inl (cI, 28, .inl (sh fl))), (qo, .inl (cJ, 1, .inr (.inl g9)))]) hP hD [0, 1, 2, 3, 15] [4, 5, 6, 7, 8, 9, 10, 11, 12, 13, 14] [11, 12, 13, 14, 0, 1, 2, 3, 4, 5, 6, 7, 8, 9, 10, 15] rfl rfl (by decide) (by decide) hk1 hB rfl rfl rfl (by decide)
  generalize H1 = H at hP hS ⊢
  show W _ _ _ _ _ _ _ _ _ _ _ _ _ _ _ (F0 m 743 ls [.int (k1 (inR v 3 30))])
  refine W.widen (k := K + 4) (n := M + 32) (by omega) (by omega) ?_
  refine lv_istore (lv' := [(5, .int (k1 (inR v 3 30))), (0, .ref b), (1, .ref x), (2, .ref mm), (3, .ref qo), (4, .int (nI i))]) hx hb dL_law_743 hl (by decide) rfl (fun ls hl => ?_)
  refine lv_aload_n hx hb dL_law_745 rfl (lv_at hl 3 rfl) ?_
  refine lv_aload_n hx hb dL_law_746 rfl (lv_at hl 1 rfl) ?_
  refine lv_iload hx hb dL_law_747 (lv_at hl 5 rfl) ?_
  refine lv_iconst (v := 1) hx hb dL_law_749 (by decide) ?_
  refine lv_iadd hx hb dL_law_750 ?_
  refine va_sld hx hb hX hbl hbA hS hi1 dL_law_751 ?_
  refine c_top hv1 ?_
  have hPc := hP.sub (ws' := [(mm, .inr (3, [.int th, .int (nI d), .int (nI r), .int ld, .int pl, .ref ao, .ref al, .int li, .int tl, .int mo, .ref aw, .ref aq, .int mn])), (ao, .inl (cI, 4, .inl fo)), (al, .inl (cI, 31, .inl fl))]) [10, 11, 12] rfl
  have hDc : va_D (fun z9 : Nat => L0 ≤ z9) [(mm, .inr (3, [.int th, .int (nI d), .int (nI r), .int ld, .int pl, .ref ao, .ref al, .int li, .int tl, .int mo, .ref aw, .ref aq, .int mn])), (ao, .inl (cI, 4, .inl fo)), (al, .inl (cI, 31, .inl fl))] := hD.sub (ws' := [(mm, .inr (3, [.int th, .int (nI d), .int (nI r), .int ld, .int pl, .ref ao, .ref al, .int li, .int tl, .int mo, .ref aw, .ref aq, .int mn])), (ao, .inl (cI, 4, .inl fo)), (al, .inl (cI, 31, .inl fl))]) [10, 11, 12] (by decide) rfl
  have hKc := hK.sub (tys' := [(cI, .int)]) [0] rfl
  refine c_callB (va_runV (As := [.int v]) (rest := []) ⟨hx, hb, hml, hown, hts⟩ (q_limitAt l D L0 cI mm ao al aw aq d r th ld pl li tl mo mn fo fl v) (cwV 1 hts gL_law_X3_limitAt rfl rfl rfl (by decide +kernel) ⟨Nat.le_of_ble_eq_true rfl, Nat.le_of_ble_eq_true rfl⟩) ⟨cP_blind, va_recv hKc hPc (ci := 3) (q0 := 0) rfl rfl, cP_of hPc hKc hDc (kE_at hE0 hAL hS)⟩ rfl rfl hl.1 rfl (lv_room (Nat.le_of_ble_eq_true rfl)) dL_law_752 ⟨by show K + 4 + 0 ≤ 601024; omega, by show M + 32 + 0 ≤ 7293034; omega⟩) hS (fun z9 _ ⟨k9, e9, h9⟩ => hDc.2 k9 (z9, e9) h9) (fun z9 ⟨k9, e9, h9⟩ => hDc.2 k9 (z9, e9) h9) (fun H1 locs hB hz1 hk1 hS => ?_)
  obtain ⟨hP, hD⟩ := c_join (ws' := [(x, .inr (2, [.ref rg, .ref tr, .ref pn, .int (nI d), .int (nI r), .int ld, .int li, .int tl, .int mo])), (rg, .inr (1, [.ref ro, .ref rl, .int pl])), (ro, .inl (cI, 4, .inl fo)), (rl, .inl (cI, 28, .inl (sh fl))), (tr, .inr (1, [.ref t0, .ref t1, .int jp])), (t0, .inl (cI, 4, .inl jo)), (t1, .inl (cI, 28, .inl jl)), (pn, .inr (0, [.ref pm, .ref pf, .int jn])), (pm, .inl (cI, 224, .inl jm)), (pf, .inl (cI, 224, .inl jf)), (mm, .inr (3, [.int (k1 (inR v 3 30)), .int (nI d), .int (nI r), .int ld, .int pl, .ref ao, .ref al, .int li, .int tl, .int mo, .ref aw, .ref aq, .int mn])), (ao, .inl (cI, 4, .inl fo)), (al, .inl (cI, 31, .inl fl)), (aw, .inl (cI, 248, .inl fa)), (aq, .inl (cI, 248, .inl fq)), (qo, .inl (cJ, 1, .inr (.inl g9)))]) (wr := [(x, .inr (2, [.ref rg, .ref tr, .ref pn, .int (nI d), .int (nI r), .int ld, .int li, .int tl, .int mo])), (rg, .inr (1, [.ref ro, .ref rl, .int pl])), (ro, .inl (cI, 4, .inl fo)), (rl, .inl (cI, 28, .inl (sh fl))), (tr, .inr (1, [.ref t0, .ref t1, .int jp])), (t0, .inl (cI, 4, .inl jo)), (t1, .inl (cI, 28, .inl jl)), (pn, .inr (0, [.ref pm, .ref pf, .int jn])), (pm, .inl (cI, 224, .inl jm)), (pf, .inl (cI, 224, .inl jf)), (aw, .inl (cI, 248, .inl fa)), (aq, .inl (cI, 248, .inl fq)), (qo, .inl (cJ, 1, .inr (.inl g9)))]) (w1 := [(mm, .inr (3, [.int (k1 (inR v 3 30)), .int (nI d), .int (nI r), .int ld, .int pl, .ref ao, .ref al, .int li, .int tl, .int mo, .ref aw, .ref aq, .int mn])), (ao, .inl (cI, 4, .inl fo)), (al, .inl (cI, 31, .inl fl))]) hP hD [10, 11, 12] [0, 1, 2, 3, 4, 5, 6, 7, 8, 9, 13, 14, 15] [0, 1, 2, 3, 4, 5, 6, 7, 8, 9, 13, 14, 15, 10, 11, 12] rfl rfl (by decide) (by decide) hk1 hB rfl rfl rfl (by decide)
  generalize H1 = H at hP hS ⊢
  show W _ _ _ _ _ _ _ _ _ _ _ _ _ _ _ (F0 m 755 ls [.int (if k1 (inR v 3 30) = 0 then fl v.toNatClampNeg else 0)])
  refine lv_istore (lv' := [(6, .int (if k1 (inR v 3 30) = 0 then fl v.toNatClampNeg else 0)), (5, .int (k1 (inR v 3 30))), (0, .ref b), (1, .ref x), (2, .ref mm), (3, .ref qo), (4, .int (nI i))]) hx hb dL_law_755 hl (by decide) rfl (fun ls hl => ?_)
  refine lv_aload_n hx hb dL_law_757 rfl (lv_at hl 4 rfl) ?_
  have hPc := hP.sub (ws' := [(mm, .inr (3, [.int (k1 (inR v 3 30)), .int (nI d), .int (nI r), .int ld, .int pl, .ref ao, .ref al, .int li, .int tl, .int mo, .ref aw, .ref aq, .int mn]))]) [10] rfl
  have hDc : va_D (fun z9 : Nat => L0 ≤ z9) [(mm, .inr (3, [.int (k1 (inR v 3 30)), .int (nI d), .int (nI r), .int ld, .int pl, .ref ao, .ref al, .int li, .int tl, .int mo, .ref aw, .ref aq, .int mn]))] := hD.sub (ws' := [(mm, .inr (3, [.int (k1 (inR v 3 30)), .int (nI d), .int (nI r), .int ld, .int pl, .ref ao, .ref al, .int li, .int tl, .int mo, .ref aw, .ref aq, .int mn]))]) [10] (by decide) rfl
  have hKc := hK.sub (tys' := []) [] rfl
  refine c_callR (va_runV (As := []) (rest := []) ⟨hx, hb, hml, hown, hts⟩ (q_thrown l D L0 mm ao al aw aq d r (k1 (inR v 3 30)) ld pl li tl mo mn) (cwV 0 hts gL_law_X3_thrown rfl rfl rfl (by decide +kernel) ⟨Nat.le_of_ble_eq_true rfl, Nat.le_of_ble_eq_true rfl⟩) ⟨cP_blind, va_recv hKc hPc (ci := 3) (q0 := 0) rfl rfl, cP_of hPc hKc hDc (kE_at hE0 hAL hS)⟩ rfl rfl hl.1 rfl (lv_room (Nat.le_of_ble_eq_true rfl)) dL_law_758 ⟨by show K + 4 + 0 ≤ 601024; omega, by show M + 32 + 0 ≤ 7293034; omega⟩) ?_
  show W _ _ _ _ _ _ _ _ _ _ _ _ _ _ _ (F0 m 761 ls [.int (k1 (inR v 3 30))])
  refine lv_iload hx hb dL_law_761 (lv_at hl 1 rfl) ?_
  refine lv_icmp_eq (tgt := 768) hx hb dL_law_763 (by decide) (fun _ => ?_) (fun c_91 => absurd (rfl) c_91)
  refine lv_iload hx hb dL_law_768 (lv_at hl 1 rfl) ?_
  refine lv_if_ne (tgt := 785) hx hb dL_law_770 (by decide) (fun c_92 => ?_) (fun c_92 => ?_)
  · refine lv_goto (tgt := 1459) hx hb dL_law_785 (by decide) ?_
    refine va_forget (fun z9 hz => by rw [hL0]; exact hS.2.2 z9 hz) ?_
    exact nx d r ld li tl mo pl fo fl jp jo jl jn jm jf (k1 (inR v 3 30)) mn fa fq g9 H ls (hI) hP hD ⟨hS.1, hS.2.1, fun _ hz => absurd hz List.not_mem_nil⟩ (lv_sub hl [2, 3, 4, 5, 6] rfl)
  · refine lv_aload_n hx hb dL_law_773 rfl (lv_at hl 5 rfl) ?_
    refine lv_iconst (v := 0) hx hb dL_law_774 (by decide) ?_
    refine va_lald hx hb hK hP 15 1 rfl rfl (vp_in_nI (n := 0) (by decide) (by decide)) dL_law_775 ?_
    refine c_topl (show g9 (0 : Int32).toNatClampNeg = (fl v.toNatClampNeg).toInt64 from hg9 c_92) ?_
    refine lv_iload hx hb dL_law_776 (lv_at hl 0 rfl) ?_
    refine lv_i2l hx hb dL_law_778 rfl ?_
    refine c_topl (show (if k1 (inR v 3 30) = 0 then fl v.toNatClampNeg else 0).toInt64 = (fl v.toNatClampNeg).toInt64 from by rw [if_pos c_92]) ?_
    refine c_lcmp hx hb dL_law_779 ?_
    refine lv_if_eq (tgt := 785) hx hb dL_law_780 (by decide) (fun _ => ?_) (fun c_93 => absurd (rfl) c_93)
    refine lv_goto (tgt := 1459) hx hb dL_law_785 (by decide) ?_
    refine va_forget (fun z9 hz => by rw [hL0]; exact hS.2.2 z9 hz) ?_
    exact nx d r ld li tl mo pl fo fl jp jo jl jn jm jf (k1 (inR v 3 30)) mn fa fq g9 H ls (hI) hP hD ⟨hS.1, hS.2.1, fun _ hz => absurd hz List.not_mem_nil⟩ (lv_sub hl [2, 3, 4, 5, 6] rfl)
set_option maxHeartbeats 4000000 in
set_option maxRecDepth 100000 in
/-- the law: strainOn -/
theorem law_c13 {p : Program} {l : Launch} {e : Env} {s : State} {m : MethodId} {args : Array Value} {below : List Frame} {meth : Method} {c : Code} {Q : State → Prop} {b L : Nat} {xs : Nat → Int32} {L0 : Nat} {D : va_G} {cI cJ : ClassId} {x rg tr pn ro rl t0 t1 pm pf mm ao al aw aq qo : Nat} (C0 : lwCtx p l s m args c b L xs L0 D cI cJ) {i K M : Nat} {v u z : Int32} (hv1 : xs (nI i + 1).toNatClampNeg = v) (hv2 : xs (nI i + 2).toNatClampNeg = u) (hv3 : xs (nI i + 3).toNatClampNeg = z) (hi1 : vp_in (nI i + 1) L) (hi2 : vp_in (nI i + 2) L) (hi3 : vp_in (nI i + 3) L) (hKr : K + 4 ≤ 601024) (hMr : M + 32 ≤ 7293034) (nx : lwNext p l e s m args below meth c Q b L0 D cI cJ x rg tr pn ro rl t0 t1 pm pf mm ao al aw aq qo 1459 i (K + 4) (M + 32)) (d r : Nat) (ld li tl mo pl : Int32) (fo fl : Nat → Int32) (jp : Int32) (jo jl : Nat → Int32) (jn : Int32) (jm jf : Nat → Int32) (th mn : Int32) (fa fq : Nat → Int32) (g0 : Nat → Int64) (H : Heap) (ls : Array Slot) (hI : lwInv d r ld pl fo fl) (hP : va_P D vwCl [(x, .inr (2, [.ref rg, .ref tr, .ref pn, .int (nI d), .int (nI r), .int ld, .int li, .int tl, .int mo])), (rg, .inr (1, [.ref ro, .ref rl, .int pl])), (ro, .inl (cI, 4, .inl fo)), (rl, .inl (cI, 28, .inl (sh fl))), (tr, .inr (1, [.ref t0, .ref t1, .int jp])), (t0, .inl (cI, 4, .inl jo)), (t1, .inl (cI, 28, .inl jl)), (pn, .inr (0, [.ref pm, .ref pf, .int jn])), (pm, .inl (cI, 224, .inl jm)), (pf, .inl (cI, 224, .inl jf)), (mm, .inr (3, [.int th, .int (nI d), .int (nI r), .int ld, .int pl, .ref ao, .ref al, .int li, .int tl, .int mo, .ref aw, .ref aq, .int mn])), (ao, .inl (cI, 4, .inl fo)), (al, .inl (cI, 31, .inl fl)), (aw, .inl (cI, 248, .inl fa)), (aq, .inl (cI, 248, .inl fq)), (qo, .inl (cJ, 1, .inr (.inl g0)))] H) (hD : va_D (fun z9 : Nat => L0 ≤ z9) [(x, .inr (2, [.ref rg, .ref tr, .ref pn, .int (nI d), .int (nI r), .int ld, .int li, .int tl, .int mo])), (rg, .inr (1, [.ref ro, .ref rl, .int pl])), (ro, .inl (cI, 4, .inl fo)), (rl, .inl (cI, 28, .inl (sh fl))), (tr, .inr (1, [.ref t0, .ref t1, .int jp])), (t0, .inl (cI, 4, .inl jo)), (t1, .inl (cI, 28, .inl jl)), (pn, .inr (0, [.ref pm, .ref pf, .int jn])), (pm, .inl (cI, 224, .inl jm)), (pf, .inl (cI, 224, .inl jf)), (mm, .inr (3, [.int th, .int (nI d), .int (nI r), .int ld, .int pl, .ref ao, .ref al, .int li, .int tl, .int mo, .ref aw, .ref aq, .int mn])), (ao, .inl (cI, 4, .inl fo)), (al, .inl (cI, 31, .inl fl)), (aw, .inl (cI, 248, .inl fa)), (aq, .inl (cI, 248, .inl fq)), (qo, .inl (cJ, 1, .inr (.inl g0)))]) (hS : va_S (fun z9 : Nat => L0 ≤ z9) s.heap H []) (hl : lv_has ls 9 [(0, .ref b), (1, .ref x), (2, .ref mm), (3, .ref qo), (4, .int (nI i))]) : W p l e room_1 s m args below meth c H [] K M Q (F0 m 788 ls []) := by
  obtain ⟨hx, hb, hml, hown, hts, hX, hbl, hL0, hK, hE0, hfl⟩ := id C0
  have hAL : ∀ z9 : Nat, (fun z9 : Nat => L0 ≤ z9) z9 → L0 ≤ z9 := fun _ h9 => h9
  have hbA : ¬ (fun z9 : Nat => L0 ≤ z9) b := by show ¬ L0 ≤ b; exact Nat.not_le.mpr (hL0 ▸ hbl)
  refine lv_aload_n hx hb dL_law_788 rfl (lv_at hl 1 rfl) ?_
  refine lv_aload_n hx hb dL_law_789 rfl (lv_at hl 0 rfl) ?_
  refine lv_iload hx hb dL_law_790 (lv_at hl 4 rfl) ?_
  refine lv_iconst (v := 1) hx hb dL_law_792 (by decide) ?_
  refine lv_iadd hx hb dL_law_793 ?_
  refine va_sld hx hb hX hbl hbA hS hi1 dL_law_794 ?_
  refine c_top hv1 ?_
  refine lv_aload_n hx hb dL_law_795 rfl (lv_at hl 3 rfl) ?_
  have hPc := hP.sub (ws' := [(x, .inr (2, [.ref rg, .ref tr, .ref pn, .int (nI d), .int (nI r), .int ld, .int li, .int tl, .int mo])), (rg, .inr (1, [.ref ro, .ref rl, .int pl])), (ro, .inl (cI, 4, .inl fo)), (rl, .inl (cI, 28, .inl (sh fl))), (qo, .inl (cJ, 1, .inr (.inl g0)))]) [0, 1, 2, 3, 15] rfl
  have hDc : va_D (fun z9 : Nat => L0 ≤ z9) [(x, .inr (2, [.ref rg, .ref tr, .ref pn, .int (nI d), .int (nI r), .int ld, .int li, .int tl, .int mo])), (rg, .inr (1, [.ref ro, .ref rl, .int pl])), (ro, .inl (cI, 4, .inl fo)), (rl, .inl (cI, 28, .inl (sh fl))), (qo, .inl (cJ, 1, .inr (.inl g0)))] := hD.sub (ws' := [(x, .inr (2, [.ref rg, .ref tr, .ref pn, .int (nI d), .int (nI r), .int ld, .int li, .int tl, .int mo])), (rg, .inr (1, [.ref ro, .ref rl, .int pl])), (ro, .inl (cI, 4, .inl fo)), (rl, .inl (cI, 28, .inl (sh fl))), (qo, .inl (cJ, 1, .inr (.inl g0)))]) [0, 1, 2, 3, 15] (by decide) rfl
  have hKc := hK.sub (tys' := [(cI, .int), (cJ, .long)]) [0, 1] rfl
  refine c_callB (vx_runSW (As := [.ref x, .int v, .ref qo]) (rest := []) ⟨hx, hb, hml, hown, hts⟩ (w_strainOn l hfl D L0 cI cJ x rg tr pn ro rl d r ld li tl mo pl fo fl qo g0 v hI.1 hI.2.1) (vx_cwSW 3 hts gL_law_L_strainOn rfl rfl rfl (by decide +kernel) ⟨Nat.le_of_ble_eq_true rfl, Nat.le_of_ble_eq_true rfl⟩) ⟨cP_blind, cP_of hPc hKc hDc (kE_at hE0 hAL hS)⟩ rfl rfl hl.1 rfl (lv_room (Nat.le_of_ble_eq_true rfl)) dL_law_796 ⟨by show K + 1 ≤ 601024; omega, by show M + 6 ≤ 7293034; omega⟩) hS (fun z9 _ ⟨k9, e9, h9⟩ => hDc.2 k9 (z9, e9) h9) (fun z9 ⟨k9, e9, h9⟩ => hDc.2 k9 (z9, e9) h9) (fun H1 locs hB hz1 hk1 hS => ?_)
  obtain ⟨g9, hg9, hB⟩ := hB
  obtain ⟨hP, hD⟩ := c_join (ws' := [(x, .inr (2, [.ref rg, .ref tr, .ref pn, .int (nI d), .int (nI r), .int ld, .int li, .int tl, .int mo])), (rg, .inr (1, [.ref ro, .ref rl, .int pl])), (ro, .inl (cI, 4, .inl fo)), (rl, .inl (cI, 28, .inl (sh fl))), (tr, .inr (1, [.ref t0, .ref t1, .int jp])), (t0, .inl (cI, 4, .inl jo)), (t1, .inl (cI, 28, .inl jl)), (pn, .inr (0, [.ref pm, .ref pf, .int jn])), (pm, .inl (cI, 224, .inl jm)), (pf, .inl (cI, 224, .inl jf)), (mm, .inr (3, [.int th, .int (nI d), .int (nI r), .int ld, .int pl, .ref ao, .ref al, .int li, .int tl, .int mo, .ref aw, .ref aq, .int mn])), (ao, .inl (cI, 4, .inl fo)), (al, .inl (cI, 31, .inl fl)), (aw, .inl (cI, 248, .inl fa)), (aq, .inl (cI, 248, .inl fq)), (qo, .inl (cJ, 1, .inr (.inl g9)))]) (wr := [(tr, .inr (1, [.ref t0, .ref t1, .int jp])), (t0, .inl (cI, 4, .inl jo)), (t1, .inl (cI, 28, .inl jl)), (pn, .inr (0, [.ref pm, .ref pf, .int jn])), (pm, .inl (cI, 224, .inl jm)), (pf, .inl (cI, 224, .inl jf)), (mm, .inr (3, [.int th, .int (nI d), .int (nI r), .int ld, .int pl, .ref ao, .ref al, .int li, .int tl, .int mo, .ref aw, .ref aq, .int mn])), (ao, .inl (cI, 4, .inl fo)), (al, .inl (cI, 31, .inl fl)), (aw, .inl (cI, 248, .inl fa)), (aq, .inl (cI, 248, .inl fq))]) (w1 := [(x, .inr (2, [.ref rg, .ref tr, .ref pn, .int (nI d), .int (nI r), .int ld, .int li, .int tl, .int mo])), (rg, .inr (1, [.ref ro, .ref rl, .int pl])), (ro, .inl (cI, 4, .inl fo)), (rl, .inl (cI, 28, .inl (sh fl))), (qo, .inl (cJ, 1, .inr (.inl g9)))]) hP hD [0, 1, 2, 3, 15] [4, 5, 6, 7, 8, 9, 10, 11, 12, 13, 14] [11, 12, 13, 14, 0, 1, 2, 3, 4, 5, 6, 7, 8, 9, 10, 15] rfl rfl (by decide) (by decide) hk1 hB rfl rfl rfl (by decide)
  generalize H1 = H at hP hS ⊢
  show W _ _ _ _ _ _ _ _ _ _ _ _ _ _ _ (F0 m 799 ls [.int (k1 (inR v 0 3))])
  refine W.widen (k := K + 4) (n := M + 32) (by omega) (by omega) ?_
  refine lv_istore (lv' := [(5, .int (k1 (inR v 0 3))), (0, .ref b), (1, .ref x), (2, .ref mm), (3, .ref qo), (4, .int (nI i))]) hx hb dL_law_799 hl (by decide) rfl (fun ls hl => ?_)
  refine lv_aload_n hx hb dL_law_801 rfl (lv_at hl 3 rfl) ?_
  refine lv_aload_n hx hb dL_law_802 rfl (lv_at hl 1 rfl) ?_
  refine lv_iload hx hb dL_law_803 (lv_at hl 5 rfl) ?_
  refine lv_iconst (v := 1) hx hb dL_law_805 (by decide) ?_
  refine lv_iadd hx hb dL_law_806 ?_
  refine va_sld hx hb hX hbl hbA hS hi1 dL_law_807 ?_
  refine c_top hv1 ?_
  have hPc := hP.sub (ws' := [(mm, .inr (3, [.int th, .int (nI d), .int (nI r), .int ld, .int pl, .ref ao, .ref al, .int li, .int tl, .int mo, .ref aw, .ref aq, .int mn])), (ao, .inl (cI, 4, .inl fo)), (al, .inl (cI, 31, .inl fl))]) [10, 11, 12] rfl
  have hDc : va_D (fun z9 : Nat => L0 ≤ z9) [(mm, .inr (3, [.int th, .int (nI d), .int (nI r), .int ld, .int pl, .ref ao, .ref al, .int li, .int tl, .int mo, .ref aw, .ref aq, .int mn])), (ao, .inl (cI, 4, .inl fo)), (al, .inl (cI, 31, .inl fl))] := hD.sub (ws' := [(mm, .inr (3, [.int th, .int (nI d), .int (nI r), .int ld, .int pl, .ref ao, .ref al, .int li, .int tl, .int mo, .ref aw, .ref aq, .int mn])), (ao, .inl (cI, 4, .inl fo)), (al, .inl (cI, 31, .inl fl))]) [10, 11, 12] (by decide) rfl
  have hKc := hK.sub (tys' := [(cI, .int)]) [0] rfl
  refine c_callB (va_runV (As := [.int v]) (rest := []) ⟨hx, hb, hml, hown, hts⟩ (q_strainOn l D L0 cI mm ao al aw aq d r th ld pl li tl mo mn fo fl v hI.1) (cwV 1 hts gL_law_X3_strainOn rfl rfl rfl (by decide +kernel) ⟨Nat.le_of_ble_eq_true rfl, Nat.le_of_ble_eq_true rfl⟩) ⟨cP_blind, va_recv hKc hPc (ci := 3) (q0 := 0) rfl rfl, cP_of hPc hKc hDc (kE_at hE0 hAL hS)⟩ rfl rfl hl.1 rfl (lv_room (Nat.le_of_ble_eq_true rfl)) dL_law_808 ⟨by show K + 4 + 0 ≤ 601024; omega, by show M + 32 + 0 ≤ 7293034; omega⟩) hS (fun z9 _ ⟨k9, e9, h9⟩ => hDc.2 k9 (z9, e9) h9) (fun z9 ⟨k9, e9, h9⟩ => hDc.2 k9 (z9, e9) h9) (fun H1 locs hB hz1 hk1 hS => ?_)
  obtain ⟨hP, hD⟩ := c_join (ws' := [(x, .inr (2, [.ref rg, .ref tr, .ref pn, .int (nI d), .int (nI r), .int ld, .int li, .int tl, .int mo])), (rg, .inr (1, [.ref ro, .ref rl, .int pl])), (ro, .inl (cI, 4, .inl fo)), (rl, .inl (cI, 28, .inl (sh fl))), (tr, .inr (1, [.ref t0, .ref t1, .int jp])), (t0, .inl (cI, 4, .inl jo)), (t1, .inl (cI, 28, .inl jl)), (pn, .inr (0, [.ref pm, .ref pf, .int jn])), (pm, .inl (cI, 224, .inl jm)), (pf, .inl (cI, 224, .inl jf)), (mm, .inr (3, [.int (k1 (inR v 0 3)), .int (nI d), .int (nI r), .int ld, .int pl, .ref ao, .ref al, .int li, .int tl, .int mo, .ref aw, .ref aq, .int mn])), (ao, .inl (cI, 4, .inl fo)), (al, .inl (cI, 31, .inl fl)), (aw, .inl (cI, 248, .inl fa)), (aq, .inl (cI, 248, .inl fq)), (qo, .inl (cJ, 1, .inr (.inl g9)))]) (wr := [(x, .inr (2, [.ref rg, .ref tr, .ref pn, .int (nI d), .int (nI r), .int ld, .int li, .int tl, .int mo])), (rg, .inr (1, [.ref ro, .ref rl, .int pl])), (ro, .inl (cI, 4, .inl fo)), (rl, .inl (cI, 28, .inl (sh fl))), (tr, .inr (1, [.ref t0, .ref t1, .int jp])), (t0, .inl (cI, 4, .inl jo)), (t1, .inl (cI, 28, .inl jl)), (pn, .inr (0, [.ref pm, .ref pf, .int jn])), (pm, .inl (cI, 224, .inl jm)), (pf, .inl (cI, 224, .inl jf)), (aw, .inl (cI, 248, .inl fa)), (aq, .inl (cI, 248, .inl fq)), (qo, .inl (cJ, 1, .inr (.inl g9)))]) (w1 := [(mm, .inr (3, [.int (k1 (inR v 0 3)), .int (nI d), .int (nI r), .int ld, .int pl, .ref ao, .ref al, .int li, .int tl, .int mo, .ref aw, .ref aq, .int mn])), (ao, .inl (cI, 4, .inl fo)), (al, .inl (cI, 31, .inl fl))]) hP hD [10, 11, 12] [0, 1, 2, 3, 4, 5, 6, 7, 8, 9, 13, 14, 15] [0, 1, 2, 3, 4, 5, 6, 7, 8, 9, 13, 14, 15, 10, 11, 12] rfl rfl (by decide) (by decide) hk1 hB rfl rfl rfl (by decide)
  generalize H1 = H at hP hS ⊢
  show W _ _ _ _ _ _ _ _ _ _ _ _ _ _ _ (F0 m 811 ls [.int (if k1 (inR v 0 3) = 0 then strS fo pl v.toNatClampNeg ld d r else 0)])
  refine lv_istore (lv' := [(6, .int (if k1 (inR v 0 3) = 0 then strS fo pl v.toNatClampNeg ld d r else 0)), (5, .int (k1 (inR v 0 3))), (0, .ref b), (1, .ref x), (2, .ref mm), (3, .ref qo), (4, .int (nI i))]) hx hb dL_law_811 hl (by decide) rfl (fun ls hl => ?_)
  refine lv_aload_n hx hb dL_law_813 rfl (lv_at hl 4 rfl) ?_
  have hPc := hP.sub (ws' := [(mm, .inr (3, [.int (k1 (inR v 0 3)), .int (nI d), .int (nI r), .int ld, .int pl, .ref ao, .ref al, .int li, .int tl, .int mo, .ref aw, .ref aq, .int mn]))]) [10] rfl
  have hDc : va_D (fun z9 : Nat => L0 ≤ z9) [(mm, .inr (3, [.int (k1 (inR v 0 3)), .int (nI d), .int (nI r), .int ld, .int pl, .ref ao, .ref al, .int li, .int tl, .int mo, .ref aw, .ref aq, .int mn]))] := hD.sub (ws' := [(mm, .inr (3, [.int (k1 (inR v 0 3)), .int (nI d), .int (nI r), .int ld, .int pl, .ref ao, .ref al, .int li, .int tl, .int mo, .ref aw, .ref aq, .int mn]))]) [10] (by decide) rfl
  have hKc := hK.sub (tys' := []) [] rfl
  refine c_callR (va_runV (As := []) (rest := []) ⟨hx, hb, hml, hown, hts⟩ (q_thrown l D L0 mm ao al aw aq d r (k1 (inR v 0 3)) ld pl li tl mo mn) (cwV 0 hts gL_law_X3_thrown rfl rfl rfl (by decide +kernel) ⟨Nat.le_of_ble_eq_true rfl, Nat.le_of_ble_eq_true rfl⟩) ⟨cP_blind, va_recv hKc hPc (ci := 3) (q0 := 0) rfl rfl, cP_of hPc hKc hDc (kE_at hE0 hAL hS)⟩ rfl rfl hl.1 rfl (lv_room (Nat.le_of_ble_eq_true rfl)) dL_law_814 ⟨by show K + 4 + 0 ≤ 601024; omega, by show M + 32 + 0 ≤ 7293034; omega⟩) ?_
  show W _ _ _ _ _ _ _ _ _ _ _ _ _ _ _ (F0 m 817 ls [.int (k1 (inR v 0 3))])
  refine lv_iload hx hb dL_law_817 (lv_at hl 1 rfl) ?_
  refine lv_icmp_eq (tgt := 824) hx hb dL_law_819 (by decide) (fun _ => ?_) (fun c_94 => absurd (rfl) c_94)
  refine lv_iload hx hb dL_law_824 (lv_at hl 1 rfl) ?_
  refine lv_if_ne (tgt := 841) hx hb dL_law_826 (by decide) (fun c_95 => ?_) (fun c_95 => ?_)
  · refine lv_goto (tgt := 1459) hx hb dL_law_841 (by decide) ?_
    refine va_forget (fun z9 hz => by rw [hL0]; exact hS.2.2 z9 hz) ?_
    exact nx d r ld li tl mo pl fo fl jp jo jl jn jm jf (k1 (inR v 0 3)) mn fa fq g9 H ls (hI) hP hD ⟨hS.1, hS.2.1, fun _ hz => absurd hz List.not_mem_nil⟩ (lv_sub hl [2, 3, 4, 5, 6] rfl)
  · refine lv_aload_n hx hb dL_law_829 rfl (lv_at hl 5 rfl) ?_
    refine lv_iconst (v := 0) hx hb dL_law_830 (by decide) ?_
    refine va_lald hx hb hK hP 15 1 rfl rfl (vp_in_nI (n := 0) (by decide) (by decide)) dL_law_831 ?_
    refine c_topl (show g9 (0 : Int32).toNatClampNeg = (strS fo pl v.toNatClampNeg ld d r).toInt64 from hg9 c_95) ?_
    refine lv_iload hx hb dL_law_832 (lv_at hl 0 rfl) ?_
    refine lv_i2l hx hb dL_law_834 rfl ?_
    refine c_topl (show (if k1 (inR v 0 3) = 0 then strS fo pl v.toNatClampNeg ld d r else 0).toInt64 = (strS fo pl v.toNatClampNeg ld d r).toInt64 from by rw [if_pos c_95]) ?_
    refine c_lcmp hx hb dL_law_835 ?_
    refine lv_if_eq (tgt := 841) hx hb dL_law_836 (by decide) (fun _ => ?_) (fun c_96 => absurd (rfl) c_96)
    refine lv_goto (tgt := 1459) hx hb dL_law_841 (by decide) ?_
    refine va_forget (fun z9 hz => by rw [hL0]; exact hS.2.2 z9 hz) ?_
    exact nx d r ld li tl mo pl fo fl jp jo jl jn jm jf (k1 (inR v 0 3)) mn fa fq g9 H ls (hI) hP hD ⟨hS.1, hS.2.1, fun _ hz => absurd hz List.not_mem_nil⟩ (lv_sub hl [2, 3, 4, 5, 6] rfl)
set_option maxHeartbeats 4000000 in
set_option maxRecDepth 100000 in
/-- the law: isSafeWith -/
theorem law_c18 {p : Program} {l : Launch} {e : Env} {s : State} {m : MethodId} {args : Array Value} {below : List Frame} {meth : Method} {c : Code} {Q : State → Prop} {b L : Nat} {xs : Nat → Int32} {L0 : Nat} {D : va_G} {cI cJ : ClassId} {x rg tr pn ro rl t0 t1 pm pf mm ao al aw aq qo : Nat} (C0 : lwCtx p l s m args c b L xs L0 D cI cJ) {i K M : Nat} {v u z : Int32} (hv1 : xs (nI i + 1).toNatClampNeg = u) (hv2 : xs (nI i + 2).toNatClampNeg = v) (hv3 : xs (nI i + 3).toNatClampNeg = z) (hi1 : vp_in (nI i + 1) L) (hi2 : vp_in (nI i + 2) L) (hi3 : vp_in (nI i + 3) L) (hKr : K + 4 ≤ 601024) (hMr : M + 32 ≤ 7293034) (nx : lwNext p l e s m args below meth c Q b L0 D cI cJ x rg tr pn ro rl t0 t1 pm pf mm ao al aw aq qo 1459 i (K + 4) (M + 32)) (d r : Nat) (ld li tl mo pl : Int32) (fo fl : Nat → Int32) (jp : Int32) (jo jl : Nat → Int32) (jn : Int32) (jm jf : Nat → Int32) (th mn : Int32) (fa fq : Nat → Int32) (g0 : Nat → Int64) (H : Heap) (ls : Array Slot) (hI : lwInv d r ld pl fo fl) (hP : va_P D vwCl [(x, .inr (2, [.ref rg, .ref tr, .ref pn, .int (nI d), .int (nI r), .int ld, .int li, .int tl, .int mo])), (rg, .inr (1, [.ref ro, .ref rl, .int pl])), (ro, .inl (cI, 4, .inl fo)), (rl, .inl (cI, 28, .inl (sh fl))), (tr, .inr (1, [.ref t0, .ref t1, .int jp])), (t0, .inl (cI, 4, .inl jo)), (t1, .inl (cI, 28, .inl jl)), (pn, .inr (0, [.ref pm, .ref pf, .int jn])), (pm, .inl (cI, 224, .inl jm)), (pf, .inl (cI, 224, .inl jf)), (mm, .inr (3, [.int th, .int (nI d), .int (nI r), .int ld, .int pl, .ref ao, .ref al, .int li, .int tl, .int mo, .ref aw, .ref aq, .int mn])), (ao, .inl (cI, 4, .inl fo)), (al, .inl (cI, 31, .inl fl)), (aw, .inl (cI, 248, .inl fa)), (aq, .inl (cI, 248, .inl fq)), (qo, .inl (cJ, 1, .inr (.inl g0)))] H) (hD : va_D (fun z9 : Nat => L0 ≤ z9) [(x, .inr (2, [.ref rg, .ref tr, .ref pn, .int (nI d), .int (nI r), .int ld, .int li, .int tl, .int mo])), (rg, .inr (1, [.ref ro, .ref rl, .int pl])), (ro, .inl (cI, 4, .inl fo)), (rl, .inl (cI, 28, .inl (sh fl))), (tr, .inr (1, [.ref t0, .ref t1, .int jp])), (t0, .inl (cI, 4, .inl jo)), (t1, .inl (cI, 28, .inl jl)), (pn, .inr (0, [.ref pm, .ref pf, .int jn])), (pm, .inl (cI, 224, .inl jm)), (pf, .inl (cI, 224, .inl jf)), (mm, .inr (3, [.int th, .int (nI d), .int (nI r), .int ld, .int pl, .ref ao, .ref al, .int li, .int tl, .int mo, .ref aw, .ref aq, .int mn])), (ao, .inl (cI, 4, .inl fo)), (al, .inl (cI, 31, .inl fl)), (aw, .inl (cI, 248, .inl fa)), (aq, .inl (cI, 248, .inl fq)), (qo, .inl (cJ, 1, .inr (.inl g0)))]) (hS : va_S (fun z9 : Nat => L0 ≤ z9) s.heap H []) (hl : lv_has ls 9 [(0, .ref b), (1, .ref x), (2, .ref mm), (3, .ref qo), (4, .int (nI i))]) : W p l e room_1 s m args below meth c H [] K M Q (F0 m 896 ls []) := by
  obtain ⟨hx, hb, hml, hown, hts, hX, hbl, hL0, hK, hE0, hfl⟩ := id C0
  have hAL : ∀ z9 : Nat, (fun z9 : Nat => L0 ≤ z9) z9 → L0 ≤ z9 := fun _ h9 => h9
  have hbA : ¬ (fun z9 : Nat => L0 ≤ z9) b := by show ¬ L0 ≤ b; exact Nat.not_le.mpr (hL0 ▸ hbl)
  refine lv_aload_n hx hb dL_law_896 rfl (lv_at hl 1 rfl) ?_
  refine lv_aload_n hx hb dL_law_897 rfl (lv_at hl 0 rfl) ?_
  refine lv_iload hx hb dL_law_898 (lv_at hl 4 rfl) ?_
  refine lv_iconst (v := 1) hx hb dL_law_900 (by decide) ?_
  refine lv_iadd hx hb dL_law_901 ?_
  refine va_sld hx hb hX hbl hbA hS hi1 dL_law_902 ?_
  refine c_top hv1 ?_
  refine lv_aload_n hx hb dL_law_903 rfl (lv_at hl 0 rfl) ?_
  refine lv_iload hx hb dL_law_904 (lv_at hl 4 rfl) ?_
  refine lv_iconst (v := 2) hx hb dL_law_906 (by decide) ?_
  refine lv_iadd hx hb dL_law_907 ?_
  refine va_sld hx hb hX hbl hbA hS hi2 dL_law_908 ?_
  refine c_top hv2 ?_
  refine lv_aload_n hx hb dL_law_909 rfl (lv_at hl 0 rfl) ?_
  refine lv_iload hx hb dL_law_910 (lv_at hl 4 rfl) ?_
  refine lv_iconst (v := 3) hx hb dL_law_912 (by decide) ?_
  refine lv_iadd hx hb dL_law_913 ?_
  refine va_sld hx hb hX hbl hbA hS hi3 dL_law_914 ?_
  refine c_top hv3 ?_
  refine lv_aload_n hx hb dL_law_915 rfl (lv_at hl 3 rfl) ?_
  have hPc := hP.sub (ws' := [(x, .inr (2, [.ref rg, .ref tr, .ref pn, .int (nI d), .int (nI r), .int ld, .int li, .int tl, .int mo])), (rg, .inr (1, [.ref ro, .ref rl, .int pl])), (ro, .inl (cI, 4, .inl fo)), (rl, .inl (cI, 28, .inl (sh fl))), (qo, .inl (cJ, 1, .inr (.inl g0)))]) [0, 1, 2, 3, 15] rfl
  have hDc : va_D (fun z9 : Nat => L0 ≤ z9) [(x, .inr (2, [.ref rg, .ref tr, .ref pn, .int (nI d), .int (nI r), .int ld, .int li, .int tl, .int mo])), (rg, .inr (1, [.ref ro, .ref rl, .int pl])), (ro, .inl (cI, 4, .inl fo)), (rl, .inl (cI, 28, .inl (sh fl))), (qo, .inl (cJ, 1, .inr (.inl g0)))] := hD.sub (ws' := [(x, .inr (2, [.ref rg, .ref tr, .ref pn, .int (nI d), .int (nI r), .int ld, .int li, .int tl, .int mo])), (rg, .inr (1, [.ref ro, .ref rl, .int pl])), (ro, .inl (cI, 4, .inl fo)), (rl, .inl (cI, 28, .inl (sh fl))), (qo, .inl (cJ, 1, .inr (.inl g0)))]) [0, 1, 2, 3, 15] (by decide) rfl
  have hKc := hK.sub (tys' := [(cI, .int), (cJ, .long)]) [0, 1] rfl
  refine c_callB (vx_runSW (As := [.ref x, .int u, .int v, .int z, .ref qo]) (rest := []) ⟨hx, hb, hml, hown, hts⟩ (w_isSafeWith l hfl D L0 cI cJ x rg tr pn ro rl d r ld li tl mo pl fo fl qo g0 u v z) (vx_cwSW 5 hts gL_law_L_isSafeWith rfl rfl rfl (by decide +kernel) ⟨Nat.le_of_ble_eq_true rfl, Nat.le_of_ble_eq_true rfl⟩) ⟨cP_blind, cP_of hPc hKc hDc (kE_at hE0 hAL hS)⟩ rfl rfl hl.1 rfl (lv_room (Nat.le_of_ble_eq_true rfl)) dL_law_916 ⟨by show K + 3 ≤ 601024; omega, by show M + 18 ≤ 7293034; omega⟩) hS (fun z9 _ ⟨k9, e9, h9⟩ => hDc.2 k9 (z9, e9) h9) (fun z9 ⟨k9, e9, h9⟩ => hDc.2 k9 (z9, e9) h9) (fun H1 locs hB hz1 hk1 hS => ?_)
  obtain ⟨g9, hg9, hB⟩ := hB
  obtain ⟨hP, hD⟩ := c_join (ws' := [(x, .inr (2, [.ref rg, .ref tr, .ref pn, .int (nI d), .int (nI r), .int ld, .int li, .int tl, .int mo])), (rg, .inr (1, [.ref ro, .ref rl, .int pl])), (ro, .inl (cI, 4, .inl fo)), (rl, .inl (cI, 28, .inl (sh fl))), (tr, .inr (1, [.ref t0, .ref t1, .int jp])), (t0, .inl (cI, 4, .inl jo)), (t1, .inl (cI, 28, .inl jl)), (pn, .inr (0, [.ref pm, .ref pf, .int jn])), (pm, .inl (cI, 224, .inl jm)), (pf, .inl (cI, 224, .inl jf)), (mm, .inr (3, [.int th, .int (nI d), .int (nI r), .int ld, .int pl, .ref ao, .ref al, .int li, .int tl, .int mo, .ref aw, .ref aq, .int mn])), (ao, .inl (cI, 4, .inl fo)), (al, .inl (cI, 31, .inl fl)), (aw, .inl (cI, 248, .inl fa)), (aq, .inl (cI, 248, .inl fq)), (qo, .inl (cJ, 1, .inr (.inl g9)))]) (wr := [(tr, .inr (1, [.ref t0, .ref t1, .int jp])), (t0, .inl (cI, 4, .inl jo)), (t1, .inl (cI, 28, .inl jl)), (pn, .inr (0, [.ref pm, .ref pf, .int jn])), (pm, .inl (cI, 224, .inl jm)), (pf, .inl (cI, 224, .inl jf)), (mm, .inr (3, [.int th, .int (nI d), .int (nI r), .int ld, .int pl, .ref ao, .ref al, .int li, .int tl, .int mo, .ref aw, .ref aq, .int mn])), (ao, .inl (cI, 4, .inl fo)), (al, .inl (cI, 31, .inl fl)), (aw, .inl (cI, 248, .inl fa)), (aq, .inl (cI, 248, .inl fq))]) (w1 := [(x, .inr (2, [.ref rg, .ref tr, .ref pn, .int (nI d), .int (nI r), .int ld, .int li, .int tl, .int mo])), (rg, .inr (1, [.ref ro, .ref rl, .int pl])), (ro, .inl (cI, 4, .inl fo)), (rl, .inl (cI, 28, .inl (sh fl))), (qo, .inl (cJ, 1, .inr (.inl g9)))]) hP hD [0, 1, 2, 3, 15] [4, 5, 6, 7, 8, 9, 10, 11, 12, 13, 14] [11, 12, 13, 14, 0, 1, 2, 3, 4, 5, 6, 7, 8, 9, 10, 15] rfl rfl (by decide) (by decide) hk1 hB rfl rfl rfl (by decide)
  generalize H1 = H at hP hS ⊢
  show W _ _ _ _ _ _ _ _ _ _ _ _ _ _ _ (F0 m 919 ls [.int (k2 (inR v 0 7) (inR u 0 60 ∧ inR z 3 30))])
  refine W.widen (k := K + 4) (n := M + 32) (by omega) (by omega) ?_
  refine lv_istore (lv' := [(5, .int (k2 (inR v 0 7) (inR u 0 60 ∧ inR z 3 30))), (0, .ref b), (1, .ref x), (2, .ref mm), (3, .ref qo), (4, .int (nI i))]) hx hb dL_law_919 hl (by decide) rfl (fun ls hl => ?_)
  refine lv_aload_n hx hb dL_law_921 rfl (lv_at hl 3 rfl) ?_
  refine lv_aload_n hx hb dL_law_922 rfl (lv_at hl 1 rfl) ?_
  refine lv_iload hx hb dL_law_923 (lv_at hl 5 rfl) ?_
  refine lv_iconst (v := 1) hx hb dL_law_925 (by decide) ?_
  refine lv_iadd hx hb dL_law_926 ?_
  refine va_sld hx hb hX hbl hbA hS hi1 dL_law_927 ?_
  refine c_top hv1 ?_
  refine lv_aload_n hx hb dL_law_928 rfl (lv_at hl 1 rfl) ?_
  refine lv_iload hx hb dL_law_929 (lv_at hl 5 rfl) ?_
  refine lv_iconst (v := 2) hx hb dL_law_931 (by decide) ?_
  refine lv_iadd hx hb dL_law_932 ?_
  refine va_sld hx hb hX hbl hbA hS hi2 dL_law_933 ?_
  refine c_top hv2 ?_
  refine lv_aload_n hx hb dL_law_934 rfl (lv_at hl 1 rfl) ?_
  refine lv_iload hx hb dL_law_935 (lv_at hl 5 rfl) ?_
  refine lv_iconst (v := 3) hx hb dL_law_937 (by decide) ?_
  refine lv_iadd hx hb dL_law_938 ?_
  refine va_sld hx hb hX hbl hbA hS hi3 dL_law_939 ?_
  refine c_top hv3 ?_
  have hPc := hP.sub (ws' := [(mm, .inr (3, [.int th, .int (nI d), .int (nI r), .int ld, .int pl, .ref ao, .ref al, .int li, .int tl, .int mo, .ref aw, .ref aq, .int mn])), (ao, .inl (cI, 4, .inl fo)), (al, .inl (cI, 31, .inl fl))]) [10, 11, 12] rfl
  have hDc : va_D (fun z9 : Nat => L0 ≤ z9) [(mm, .inr (3, [.int th, .int (nI d), .int (nI r), .int ld, .int pl, .ref ao, .ref al, .int li, .int tl, .int mo, .ref aw, .ref aq, .int mn])), (ao, .inl (cI, 4, .inl fo)), (al, .inl (cI, 31, .inl fl))] := hD.sub (ws' := [(mm, .inr (3, [.int th, .int (nI d), .int (nI r), .int ld, .int pl, .ref ao, .ref al, .int li, .int tl, .int mo, .ref aw, .ref aq, .int mn])), (ao, .inl (cI, 4, .inl fo)), (al, .inl (cI, 31, .inl fl))]) [10, 11, 12] (by decide) rfl
  have hKc := hK.sub (tys' := [(cI, .int)]) [0] rfl
  refine c_callB (va_runV (As := [.int u, .int v, .int z]) (rest := []) ⟨hx, hb, hml, hown, hts⟩ (q_isSafeWith l D L0 cI mm ao al aw aq d r th ld pl li tl mo mn fo fl u v z) (cwV 3 hts gL_law_X3_isSafeWith rfl rfl rfl (by decide +kernel) ⟨Nat.le_of_ble_eq_true rfl, Nat.le_of_ble_eq_true rfl⟩) ⟨cP_blind, va_recv hKc hPc (ci := 3) (q0 := 0) rfl rfl, cP_of hPc hKc hDc (kE_at hE0 hAL hS)⟩ rfl rfl hl.1 rfl (lv_room (Nat.le_of_ble_eq_true rfl)) dL_law_940 ⟨by show K + 4 + 0 ≤ 601024; omega, by show M + 32 + 0 ≤ 7293034; omega⟩) hS (fun z9 _ ⟨k9, e9, h9⟩ => hDc.2 k9 (z9, e9) h9) (fun z9 ⟨k9, e9, h9⟩ => hDc.2 k9 (z9, e9) h9) (fun H1 locs hB hz1 hk1 hS => ?_)
  obtain ⟨hP, hD⟩ := c_join (ws' := [(x, .inr (2, [.ref rg, .ref tr, .ref pn, .int (nI d), .int (nI r), .int ld, .int li, .int tl, .int mo])), (rg, .inr (1, [.ref ro, .ref rl, .int pl])), (ro, .inl (cI, 4, .inl fo)), (rl, .inl (cI, 28, .inl (sh fl))), (tr, .inr (1, [.ref t0, .ref t1, .int jp])), (t0, .inl (cI, 4, .inl jo)), (t1, .inl (cI, 28, .inl jl)), (pn, .inr (0, [.ref pm, .ref pf, .int jn])), (pm, .inl (cI, 224, .inl jm)), (pf, .inl (cI, 224, .inl jf)), (mm, .inr (3, [.int (k2 (inR v 0 7) (inR u 0 60 ∧ inR z 3 30)), .int (nI d), .int (nI r), .int ld, .int pl, .ref ao, .ref al, .int li, .int tl, .int mo, .ref aw, .ref aq, .int mn])), (ao, .inl (cI, 4, .inl fo)), (al, .inl (cI, 31, .inl fl)), (aw, .inl (cI, 248, .inl fa)), (aq, .inl (cI, 248, .inl fq)), (qo, .inl (cJ, 1, .inr (.inl g9)))]) (wr := [(x, .inr (2, [.ref rg, .ref tr, .ref pn, .int (nI d), .int (nI r), .int ld, .int li, .int tl, .int mo])), (rg, .inr (1, [.ref ro, .ref rl, .int pl])), (ro, .inl (cI, 4, .inl fo)), (rl, .inl (cI, 28, .inl (sh fl))), (tr, .inr (1, [.ref t0, .ref t1, .int jp])), (t0, .inl (cI, 4, .inl jo)), (t1, .inl (cI, 28, .inl jl)), (pn, .inr (0, [.ref pm, .ref pf, .int jn])), (pm, .inl (cI, 224, .inl jm)), (pf, .inl (cI, 224, .inl jf)), (aw, .inl (cI, 248, .inl fa)), (aq, .inl (cI, 248, .inl fq)), (qo, .inl (cJ, 1, .inr (.inl g9)))]) (w1 := [(mm, .inr (3, [.int (k2 (inR v 0 7) (inR u 0 60 ∧ inR z 3 30)), .int (nI d), .int (nI r), .int ld, .int pl, .ref ao, .ref al, .int li, .int tl, .int mo, .ref aw, .ref aq, .int mn])), (ao, .inl (cI, 4, .inl fo)), (al, .inl (cI, 31, .inl fl))]) hP hD [10, 11, 12] [0, 1, 2, 3, 4, 5, 6, 7, 8, 9, 13, 14, 15] [0, 1, 2, 3, 4, 5, 6, 7, 8, 9, 13, 14, 15, 10, 11, 12] rfl rfl (by decide) (by decide) hk1 hB rfl rfl rfl (by decide)
  generalize H1 = H at hP hS ⊢
  show W _ _ _ _ _ _ _ _ _ _ _ _ _ _ _ (F0 m 943 ls [.int (if k2 (inR v 0 7) (inR u 0 60 ∧ inR z 3 30) = 0 then bI (safS fo fl pl u v.toNatClampNeg z.toNatClampNeg) else 0)])
  refine lv_istore (lv' := [(6, .int (if k2 (inR v 0 7) (inR u 0 60 ∧ inR z 3 30) = 0 then bI (safS fo fl pl u v.toNatClampNeg z.toNatClampNeg) else 0)), (5, .int (k2 (inR v 0 7) (inR u 0 60 ∧ inR z 3 30))), (0, .ref b), (1, .ref x), (2, .ref mm), (3, .ref qo), (4, .int (nI i))]) hx hb dL_law_943 hl (by decide) rfl (fun ls hl => ?_)
  refine lv_aload_n hx hb dL_law_945 rfl (lv_at hl 4 rfl) ?_
  have hPc := hP.sub (ws' := [(mm, .inr (3, [.int (k2 (inR v 0 7) (inR u 0 60 ∧ inR z 3 30)), .int (nI d), .int (nI r), .int ld, .int pl, .ref ao, .ref al, .int li, .int tl, .int mo, .ref aw, .ref aq, .int mn]))]) [10] rfl
  have hDc : va_D (fun z9 : Nat => L0 ≤ z9) [(mm, .inr (3, [.int (k2 (inR v 0 7) (inR u 0 60 ∧ inR z 3 30)), .int (nI d), .int (nI r), .int ld, .int pl, .ref ao, .ref al, .int li, .int tl, .int mo, .ref aw, .ref aq, .int mn]))] := hD.sub (ws' := [(mm, .inr (3, [.int (k2 (inR v 0 7) (inR u 0 60 ∧ inR z 3 30)), .int (nI d), .int (nI r), .int ld, .int pl, .ref ao, .ref al, .int li, .int tl, .int mo, .ref aw, .ref aq, .int mn]))]) [10] (by decide) rfl
  have hKc := hK.sub (tys' := []) [] rfl
  refine c_callR (va_runV (As := []) (rest := []) ⟨hx, hb, hml, hown, hts⟩ (q_thrown l D L0 mm ao al aw aq d r (k2 (inR v 0 7) (inR u 0 60 ∧ inR z 3 30)) ld pl li tl mo mn) (cwV 0 hts gL_law_X3_thrown rfl rfl rfl (by decide +kernel) ⟨Nat.le_of_ble_eq_true rfl, Nat.le_of_ble_eq_true rfl⟩) ⟨cP_blind, va_recv hKc hPc (ci := 3) (q0 := 0) rfl rfl, cP_of hPc hKc hDc (kE_at hE0 hAL hS)⟩ rfl rfl hl.1 rfl (lv_room (Nat.le_of_ble_eq_true rfl)) dL_law_946 ⟨by show K + 4 + 0 ≤ 601024; omega, by show M + 32 + 0 ≤ 7293034; omega⟩) ?_
  show W _ _ _ _ _ _ _ _ _ _ _ _ _ _ _ (F0 m 949 ls [.int (k2 (inR v 0 7) (inR u 0 60 ∧ inR z 3 30))])
  refine lv_iload hx hb dL_law_949 (lv_at hl 1 rfl) ?_
  refine lv_icmp_eq (tgt := 956) hx hb dL_law_951 (by decide) (fun _ => ?_) (fun c_97 => absurd (rfl) c_97)
  refine lv_iload hx hb dL_law_956 (lv_at hl 1 rfl) ?_
  refine lv_if_ne (tgt := 980) hx hb dL_law_958 (by decide) (fun c_98 => ?_) (fun c_98 => ?_)
  · refine lv_goto (tgt := 1459) hx hb dL_law_980 (by decide) ?_
    refine va_forget (fun z9 hz => by rw [hL0]; exact hS.2.2 z9 hz) ?_
    exact nx d r ld li tl mo pl fo fl jp jo jl jn jm jf (k2 (inR v 0 7) (inR u 0 60 ∧ inR z 3 30)) mn fa fq g9 H ls (hI) hP hD ⟨hS.1, hS.2.1, fun _ hz => absurd hz List.not_mem_nil⟩ (lv_sub hl [2, 3, 4, 5, 6] rfl)
  · refine lv_aload_n hx hb dL_law_961 rfl (lv_at hl 5 rfl) ?_
    refine lv_iconst (v := 0) hx hb dL_law_962 (by decide) ?_
    refine va_lald hx hb hK hP 15 1 rfl rfl (vp_in_nI (n := 0) (by decide) (by decide)) dL_law_963 ?_
    refine c_topl (show g9 (0 : Int32).toNatClampNeg = (bI (safS fo fl pl u v.toNatClampNeg z.toNatClampNeg)).toInt64 from hg9 c_98) ?_
    refine lv_iload hx hb dL_law_964 (lv_at hl 0 rfl) ?_
    refine c_top (show (if k2 (inR v 0 7) (inR u 0 60 ∧ inR z 3 30) = 0 then bI (safS fo fl pl u v.toNatClampNeg z.toNatClampNeg) else 0) = bI (safS fo fl pl u v.toNatClampNeg z.toNatClampNeg) from if_pos c_98) ?_
    obtain ⟨b_99, hbv_100⟩ : ∃ z9 : Bool, z9 = safS fo fl pl u v.toNatClampNeg z.toNatClampNeg := ⟨_, rfl⟩
    refine c_top (show (bI (safS fo fl pl u v.toNatClampNeg z.toNatClampNeg)) = bI b_99 from by rw [hbv_100]) ?_
    refine lv_if_eq (tgt := 973) hx hb dL_law_966 (by decide) (fun c_101 => ?_) (fun c_101 => ?_)
    · have hs : safS fo fl pl u v.toNatClampNeg z.toNatClampNeg = false := by rw [← hbv_100]; cases b_99 with | false => rfl | true => exact absurd c_101 (by decide)
      refine lv_lconst (v := 0) hx hb dL_law_973 (by decide) ?_
      refine c_topl (show (0 : Int64) = (bI (safS fo fl pl u v.toNatClampNeg z.toNatClampNeg)).toInt64 from by rw [hs]; rfl) ?_
      refine c_lcmp hx hb dL_law_974 ?_
      refine lv_if_eq (tgt := 980) hx hb dL_law_975 (by decide) (fun _ => ?_) (fun c_102 => absurd (rfl) c_102)
      refine lv_goto (tgt := 1459) hx hb dL_law_980 (by decide) ?_
      refine va_forget (fun z9 hz => by rw [hL0]; exact hS.2.2 z9 hz) ?_
      exact nx d r ld li tl mo pl fo fl jp jo jl jn jm jf (k2 (inR v 0 7) (inR u 0 60 ∧ inR z 3 30)) mn fa fq g9 H ls (hI) hP hD ⟨hS.1, hS.2.1, fun _ hz => absurd hz List.not_mem_nil⟩ (lv_sub hl [2, 3, 4, 5, 6] rfl)
    · have hs : safS fo fl pl u v.toNatClampNeg z.toNatClampNeg = true := by rw [← hbv_100]; cases b_99 with | true => rfl | false => exact absurd rfl c_101
      refine lv_lconst (v := 1) hx hb dL_law_969 (by decide) ?_
      refine lv_goto (tgt := 974) hx hb dL_law_970 (by decide) ?_
      refine c_topl (show (1 : Int64) = (bI (safS fo fl pl u v.toNatClampNeg z.toNatClampNeg)).toInt64 from by rw [hs]; rfl) ?_
      refine c_lcmp hx hb dL_law_974 ?_
      refine lv_if_eq (tgt := 980) hx hb dL_law_975 (by decide) (fun _ => ?_) (fun c_103 => absurd (rfl) c_103)
      refine lv_goto (tgt := 1459) hx hb dL_law_980 (by decide) ?_
      refine va_forget (fun z9 hz => by rw [hL0]; exact hS.2.2 z9 hz) ?_
      exact nx d r ld li tl mo pl fo fl jp jo jl jn jm jf (k2 (inR v 0 7) (inR u 0 60 ∧ inR z 3 30)) mn fa fq g9 H ls (hI) hP hD ⟨hS.1, hS.2.1, fun _ hz => absurd hz List.not_mem_nil⟩ (lv_sub hl [2, 3, 4, 5, 6] rfl)
set_option maxHeartbeats 4000000 in
set_option maxRecDepth 100000 in
/-- the law: farthestReach -/
theorem law_c20 {p : Program} {l : Launch} {e : Env} {s : State} {m : MethodId} {args : Array Value} {below : List Frame} {meth : Method} {c : Code} {Q : State → Prop} {b L : Nat} {xs : Nat → Int32} {L0 : Nat} {D : va_G} {cI cJ : ClassId} {x rg tr pn ro rl t0 t1 pm pf mm ao al aw aq qo : Nat} (C0 : lwCtx p l s m args c b L xs L0 D cI cJ) {i K M : Nat} {v u z : Int32} (hv1 : xs (nI i + 1).toNatClampNeg = u) (hv2 : xs (nI i + 2).toNatClampNeg = v) (hv3 : xs (nI i + 3).toNatClampNeg = z) (hi1 : vp_in (nI i + 1) L) (hi2 : vp_in (nI i + 2) L) (hi3 : vp_in (nI i + 3) L) (hKr : K + 4 ≤ 601024) (hMr : M + 32 ≤ 7293034) (nx : lwNext p l e s m args below meth c Q b L0 D cI cJ x rg tr pn ro rl t0 t1 pm pf mm ao al aw aq qo 1459 i (K + 4) (M + 32)) (d r : Nat) (ld li tl mo pl : Int32) (fo fl : Nat → Int32) (jp : Int32) (jo jl : Nat → Int32) (jn : Int32) (jm jf : Nat → Int32) (th mn : Int32) (fa fq : Nat → Int32) (g0 : Nat → Int64) (H : Heap) (ls : Array Slot) (hI : lwInv d r ld pl fo fl) (hP : va_P D vwCl [(x, .inr (2, [.ref rg, .ref tr, .ref pn, .int (nI d), .int (nI r), .int ld, .int li, .int tl, .int mo])), (rg, .inr (1, [.ref ro, .ref rl, .int pl])), (ro, .inl (cI, 4, .inl fo)), (rl, .inl (cI, 28, .inl (sh fl))), (tr, .inr (1, [.ref t0, .ref t1, .int jp])), (t0, .inl (cI, 4, .inl jo)), (t1, .inl (cI, 28, .inl jl)), (pn, .inr (0, [.ref pm, .ref pf, .int jn])), (pm, .inl (cI, 224, .inl jm)), (pf, .inl (cI, 224, .inl jf)), (mm, .inr (3, [.int th, .int (nI d), .int (nI r), .int ld, .int pl, .ref ao, .ref al, .int li, .int tl, .int mo, .ref aw, .ref aq, .int mn])), (ao, .inl (cI, 4, .inl fo)), (al, .inl (cI, 31, .inl fl)), (aw, .inl (cI, 248, .inl fa)), (aq, .inl (cI, 248, .inl fq)), (qo, .inl (cJ, 1, .inr (.inl g0)))] H) (hD : va_D (fun z9 : Nat => L0 ≤ z9) [(x, .inr (2, [.ref rg, .ref tr, .ref pn, .int (nI d), .int (nI r), .int ld, .int li, .int tl, .int mo])), (rg, .inr (1, [.ref ro, .ref rl, .int pl])), (ro, .inl (cI, 4, .inl fo)), (rl, .inl (cI, 28, .inl (sh fl))), (tr, .inr (1, [.ref t0, .ref t1, .int jp])), (t0, .inl (cI, 4, .inl jo)), (t1, .inl (cI, 28, .inl jl)), (pn, .inr (0, [.ref pm, .ref pf, .int jn])), (pm, .inl (cI, 224, .inl jm)), (pf, .inl (cI, 224, .inl jf)), (mm, .inr (3, [.int th, .int (nI d), .int (nI r), .int ld, .int pl, .ref ao, .ref al, .int li, .int tl, .int mo, .ref aw, .ref aq, .int mn])), (ao, .inl (cI, 4, .inl fo)), (al, .inl (cI, 31, .inl fl)), (aw, .inl (cI, 248, .inl fa)), (aq, .inl (cI, 248, .inl fq)), (qo, .inl (cJ, 1, .inr (.inl g0)))]) (hS : va_S (fun z9 : Nat => L0 ≤ z9) s.heap H []) (hl : lv_has ls 9 [(0, .ref b), (1, .ref x), (2, .ref mm), (3, .ref qo), (4, .int (nI i))]) : W p l e room_1 s m args below meth c H [] K M Q (F0 m 996 ls []) := by
  obtain ⟨hx, hb, hml, hown, hts, hX, hbl, hL0, hK, hE0, hfl⟩ := id C0
  have hAL : ∀ z9 : Nat, (fun z9 : Nat => L0 ≤ z9) z9 → L0 ≤ z9 := fun _ h9 => h9
  have hbA : ¬ (fun z9 : Nat => L0 ≤ z9) b := by show ¬ L0 ≤ b; exact Nat.not_le.mpr (hL0 ▸ hbl)
  refine lv_aload_n hx hb dL_law_996 rfl (lv_at hl 1 rfl) ?_
  refine lv_aload_n hx hb dL_law_997 rfl (lv_at hl 0 rfl) ?_
  refine lv_iload hx hb dL_law_998 (lv_at hl 4 rfl) ?_
  refine lv_iconst (v := 1) hx hb dL_law_1000 (by decide) ?_
  refine lv_iadd hx hb dL_law_1001 ?_
  refine va_sld hx hb hX hbl hbA hS hi1 dL_law_1002 ?_
  refine c_top hv1 ?_
  refine lv_aload_n hx hb dL_law_1003 rfl (lv_at hl 0 rfl) ?_
  refine lv_iload hx hb dL_law_1004 (lv_at hl 4 rfl) ?_
  refine lv_iconst (v := 2) hx hb dL_law_1006 (by decide) ?_
  refine lv_iadd hx hb dL_law_1007 ?_
  refine va_sld hx hb hX hbl hbA hS hi2 dL_law_1008 ?_
  refine c_top hv2 ?_
  refine lv_aload_n hx hb dL_law_1009 rfl (lv_at hl 3 rfl) ?_
  have hPc := hP.sub (ws' := [(x, .inr (2, [.ref rg, .ref tr, .ref pn, .int (nI d), .int (nI r), .int ld, .int li, .int tl, .int mo])), (rg, .inr (1, [.ref ro, .ref rl, .int pl])), (ro, .inl (cI, 4, .inl fo)), (rl, .inl (cI, 28, .inl (sh fl))), (qo, .inl (cJ, 1, .inr (.inl g0)))]) [0, 1, 2, 3, 15] rfl
  have hDc : va_D (fun z9 : Nat => L0 ≤ z9) [(x, .inr (2, [.ref rg, .ref tr, .ref pn, .int (nI d), .int (nI r), .int ld, .int li, .int tl, .int mo])), (rg, .inr (1, [.ref ro, .ref rl, .int pl])), (ro, .inl (cI, 4, .inl fo)), (rl, .inl (cI, 28, .inl (sh fl))), (qo, .inl (cJ, 1, .inr (.inl g0)))] := hD.sub (ws' := [(x, .inr (2, [.ref rg, .ref tr, .ref pn, .int (nI d), .int (nI r), .int ld, .int li, .int tl, .int mo])), (rg, .inr (1, [.ref ro, .ref rl, .int pl])), (ro, .inl (cI, 4, .inl fo)), (rl, .inl (cI, 28, .inl (sh fl))), (qo, .inl (cJ, 1, .inr (.inl g0)))]) [0, 1, 2, 3, 15] (by decide) rfl
  have hKc := hK.sub (tys' := [(cI, .int), (cJ, .long)]) [0, 1] rfl
  refine c_callB (vx_runSW (As := [.ref x, .int u, .int v, .ref qo]) (rest := []) ⟨hx, hb, hml, hown, hts⟩ (w_farthestReach l hfl D L0 cI cJ x rg tr pn ro rl d r ld li tl mo pl fo fl qo g0 u v) (vx_cwSW 4 hts gL_law_L_farthestReach rfl rfl rfl (by decide +kernel) ⟨Nat.le_of_ble_eq_true rfl, Nat.le_of_ble_eq_true rfl⟩) ⟨cP_blind, cP_of hPc hKc hDc (kE_at hE0 hAL hS)⟩ rfl rfl hl.1 rfl (lv_room (Nat.le_of_ble_eq_true rfl)) dL_law_1010 ⟨by show K + 2 ≤ 601024; omega, by show M + 12 ≤ 7293034; omega⟩) hS (fun z9 _ ⟨k9, e9, h9⟩ => hDc.2 k9 (z9, e9) h9) (fun z9 ⟨k9, e9, h9⟩ => hDc.2 k9 (z9, e9) h9) (fun H1 locs hB hz1 hk1 hS => ?_)
  obtain ⟨g9, hg9, hB⟩ := hB
  obtain ⟨hP, hD⟩ := c_join (ws' := [(x, .inr (2, [.ref rg, .ref tr, .ref pn, .int (nI d), .int (nI r), .int ld, .int li, .int tl, .int mo])), (rg, .inr (1, [.ref ro, .ref rl, .int pl])), (ro, .inl (cI, 4, .inl fo)), (rl, .inl (cI, 28, .inl (sh fl))), (tr, .inr (1, [.ref t0, .ref t1, .int jp])), (t0, .inl (cI, 4, .inl jo)), (t1, .inl (cI, 28, .inl jl)), (pn, .inr (0, [.ref pm, .ref pf, .int jn])), (pm, .inl (cI, 224, .inl jm)), (pf, .inl (cI, 224, .inl jf)), (mm, .inr (3, [.int th, .int (nI d), .int (nI r), .int ld, .int pl, .ref ao, .ref al, .int li, .int tl, .int mo, .ref aw, .ref aq, .int mn])), (ao, .inl (cI, 4, .inl fo)), (al, .inl (cI, 31, .inl fl)), (aw, .inl (cI, 248, .inl fa)), (aq, .inl (cI, 248, .inl fq)), (qo, .inl (cJ, 1, .inr (.inl g9)))]) (wr := [(tr, .inr (1, [.ref t0, .ref t1, .int jp])), (t0, .inl (cI, 4, .inl jo)), (t1, .inl (cI, 28, .inl jl)), (pn, .inr (0, [.ref pm, .ref pf, .int jn])), (pm, .inl (cI, 224, .inl jm)), (pf, .inl (cI, 224, .inl jf)), (mm, .inr (3, [.int th, .int (nI d), .int (nI r), .int ld, .int pl, .ref ao, .ref al, .int li, .int tl, .int mo, .ref aw, .ref aq, .int mn])), (ao, .inl (cI, 4, .inl fo)), (al, .inl (cI, 31, .inl fl)), (aw, .inl (cI, 248, .inl fa)), (aq, .inl (cI, 248, .inl fq))]) (w1 := [(x, .inr (2, [.ref rg, .ref tr, .ref pn, .int (nI d), .int (nI r), .int ld, .int li, .int tl, .int mo])), (rg, .inr (1, [.ref ro, .ref rl, .int pl])), (ro, .inl (cI, 4, .inl fo)), (rl, .inl (cI, 28, .inl (sh fl))), (qo, .inl (cJ, 1, .inr (.inl g9)))]) hP hD [0, 1, 2, 3, 15] [4, 5, 6, 7, 8, 9, 10, 11, 12, 13, 14] [11, 12, 13, 14, 0, 1, 2, 3, 4, 5, 6, 7, 8, 9, 10, 15] rfl rfl (by decide) (by decide) hk1 hB rfl rfl rfl (by decide)
  generalize H1 = H at hP hS ⊢
  show W _ _ _ _ _ _ _ _ _ _ _ _ _ _ _ (F0 m 1013 ls [.int (k2 (inR v 0 7) (inR u 0 60))])
  refine W.widen (k := K + 4) (n := M + 32) (by omega) (by omega) ?_
  refine lv_istore (lv' := [(5, .int (k2 (inR v 0 7) (inR u 0 60))), (0, .ref b), (1, .ref x), (2, .ref mm), (3, .ref qo), (4, .int (nI i))]) hx hb dL_law_1013 hl (by decide) rfl (fun ls hl => ?_)
  refine lv_aload_n hx hb dL_law_1015 rfl (lv_at hl 3 rfl) ?_
  refine lv_aload_n hx hb dL_law_1016 rfl (lv_at hl 1 rfl) ?_
  refine lv_iload hx hb dL_law_1017 (lv_at hl 5 rfl) ?_
  refine lv_iconst (v := 1) hx hb dL_law_1019 (by decide) ?_
  refine lv_iadd hx hb dL_law_1020 ?_
  refine va_sld hx hb hX hbl hbA hS hi1 dL_law_1021 ?_
  refine c_top hv1 ?_
  refine lv_aload_n hx hb dL_law_1022 rfl (lv_at hl 1 rfl) ?_
  refine lv_iload hx hb dL_law_1023 (lv_at hl 5 rfl) ?_
  refine lv_iconst (v := 2) hx hb dL_law_1025 (by decide) ?_
  refine lv_iadd hx hb dL_law_1026 ?_
  refine va_sld hx hb hX hbl hbA hS hi2 dL_law_1027 ?_
  refine c_top hv2 ?_
  have hPc := hP.sub (ws' := [(mm, .inr (3, [.int th, .int (nI d), .int (nI r), .int ld, .int pl, .ref ao, .ref al, .int li, .int tl, .int mo, .ref aw, .ref aq, .int mn])), (ao, .inl (cI, 4, .inl fo)), (al, .inl (cI, 31, .inl fl))]) [10, 11, 12] rfl
  have hDc : va_D (fun z9 : Nat => L0 ≤ z9) [(mm, .inr (3, [.int th, .int (nI d), .int (nI r), .int ld, .int pl, .ref ao, .ref al, .int li, .int tl, .int mo, .ref aw, .ref aq, .int mn])), (ao, .inl (cI, 4, .inl fo)), (al, .inl (cI, 31, .inl fl))] := hD.sub (ws' := [(mm, .inr (3, [.int th, .int (nI d), .int (nI r), .int ld, .int pl, .ref ao, .ref al, .int li, .int tl, .int mo, .ref aw, .ref aq, .int mn])), (ao, .inl (cI, 4, .inl fo)), (al, .inl (cI, 31, .inl fl))]) [10, 11, 12] (by decide) rfl
  have hKc := hK.sub (tys' := [(cI, .int)]) [0] rfl
  refine c_callB (va_runV (As := [.int u, .int v]) (rest := []) ⟨hx, hb, hml, hown, hts⟩ (q_farthestReach l D L0 cI mm ao al aw aq d r th ld pl li tl mo mn fo fl u v) (cwV 2 hts gL_law_X3_farthestReach rfl rfl rfl (by decide +kernel) ⟨Nat.le_of_ble_eq_true rfl, Nat.le_of_ble_eq_true rfl⟩) ⟨cP_blind, va_recv hKc hPc (ci := 3) (q0 := 0) rfl rfl, cP_of hPc hKc hDc (kE_at hE0 hAL hS)⟩ rfl rfl hl.1 rfl (lv_room (Nat.le_of_ble_eq_true rfl)) dL_law_1028 ⟨by show K + 4 + 0 ≤ 601024; omega, by show M + 32 + 0 ≤ 7293034; omega⟩) hS (fun z9 _ ⟨k9, e9, h9⟩ => hDc.2 k9 (z9, e9) h9) (fun z9 ⟨k9, e9, h9⟩ => hDc.2 k9 (z9, e9) h9) (fun H1 locs hB hz1 hk1 hS => ?_)
  obtain ⟨hP, hD⟩ := c_join (ws' := [(x, .inr (2, [.ref rg, .ref tr, .ref pn, .int (nI d), .int (nI r), .int ld, .int li, .int tl, .int mo])), (rg, .inr (1, [.ref ro, .ref rl, .int pl])), (ro, .inl (cI, 4, .inl fo)), (rl, .inl (cI, 28, .inl (sh fl))), (tr, .inr (1, [.ref t0, .ref t1, .int jp])), (t0, .inl (cI, 4, .inl jo)), (t1, .inl (cI, 28, .inl jl)), (pn, .inr (0, [.ref pm, .ref pf, .int jn])), (pm, .inl (cI, 224, .inl jm)), (pf, .inl (cI, 224, .inl jf)), (mm, .inr (3, [.int (k2 (inR v 0 7) (inR u 0 60)), .int (nI d), .int (nI r), .int ld, .int pl, .ref ao, .ref al, .int li, .int tl, .int mo, .ref aw, .ref aq, .int mn])), (ao, .inl (cI, 4, .inl fo)), (al, .inl (cI, 31, .inl fl)), (aw, .inl (cI, 248, .inl fa)), (aq, .inl (cI, 248, .inl fq)), (qo, .inl (cJ, 1, .inr (.inl g9)))]) (wr := [(x, .inr (2, [.ref rg, .ref tr, .ref pn, .int (nI d), .int (nI r), .int ld, .int li, .int tl, .int mo])), (rg, .inr (1, [.ref ro, .ref rl, .int pl])), (ro, .inl (cI, 4, .inl fo)), (rl, .inl (cI, 28, .inl (sh fl))), (tr, .inr (1, [.ref t0, .ref t1, .int jp])), (t0, .inl (cI, 4, .inl jo)), (t1, .inl (cI, 28, .inl jl)), (pn, .inr (0, [.ref pm, .ref pf, .int jn])), (pm, .inl (cI, 224, .inl jm)), (pf, .inl (cI, 224, .inl jf)), (aw, .inl (cI, 248, .inl fa)), (aq, .inl (cI, 248, .inl fq)), (qo, .inl (cJ, 1, .inr (.inl g9)))]) (w1 := [(mm, .inr (3, [.int (k2 (inR v 0 7) (inR u 0 60)), .int (nI d), .int (nI r), .int ld, .int pl, .ref ao, .ref al, .int li, .int tl, .int mo, .ref aw, .ref aq, .int mn])), (ao, .inl (cI, 4, .inl fo)), (al, .inl (cI, 31, .inl fl))]) hP hD [10, 11, 12] [0, 1, 2, 3, 4, 5, 6, 7, 8, 9, 13, 14, 15] [0, 1, 2, 3, 4, 5, 6, 7, 8, 9, 13, 14, 15, 10, 11, 12] rfl rfl (by decide) (by decide) hk1 hB rfl rfl rfl (by decide)
  generalize H1 = H at hP hS ⊢
  show W _ _ _ _ _ _ _ _ _ _ _ _ _ _ _ (F0 m 1031 ls [.int (if k2 (inR v 0 7) (inR u 0 60) = 0 then faI (faN (fun k => safS fo fl pl u v.toNatClampNeg k) 28 3) else 0)])
  refine lv_istore (lv' := [(6, .int (if k2 (inR v 0 7) (inR u 0 60) = 0 then faI (faN (fun k => safS fo fl pl u v.toNatClampNeg k) 28 3) else 0)), (5, .int (k2 (inR v 0 7) (inR u 0 60))), (0, .ref b), (1, .ref x), (2, .ref mm), (3, .ref qo), (4, .int (nI i))]) hx hb dL_law_1031 hl (by decide) rfl (fun ls hl => ?_)
  refine lv_aload_n hx hb dL_law_1033 rfl (lv_at hl 4 rfl) ?_
  have hPc := hP.sub (ws' := [(mm, .inr (3, [.int (k2 (inR v 0 7) (inR u 0 60)), .int (nI d), .int (nI r), .int ld, .int pl, .ref ao, .ref al, .int li, .int tl, .int mo, .ref aw, .ref aq, .int mn]))]) [10] rfl
  have hDc : va_D (fun z9 : Nat => L0 ≤ z9) [(mm, .inr (3, [.int (k2 (inR v 0 7) (inR u 0 60)), .int (nI d), .int (nI r), .int ld, .int pl, .ref ao, .ref al, .int li, .int tl, .int mo, .ref aw, .ref aq, .int mn]))] := hD.sub (ws' := [(mm, .inr (3, [.int (k2 (inR v 0 7) (inR u 0 60)), .int (nI d), .int (nI r), .int ld, .int pl, .ref ao, .ref al, .int li, .int tl, .int mo, .ref aw, .ref aq, .int mn]))]) [10] (by decide) rfl
  have hKc := hK.sub (tys' := []) [] rfl
  refine c_callR (va_runV (As := []) (rest := []) ⟨hx, hb, hml, hown, hts⟩ (q_thrown l D L0 mm ao al aw aq d r (k2 (inR v 0 7) (inR u 0 60)) ld pl li tl mo mn) (cwV 0 hts gL_law_X3_thrown rfl rfl rfl (by decide +kernel) ⟨Nat.le_of_ble_eq_true rfl, Nat.le_of_ble_eq_true rfl⟩) ⟨cP_blind, va_recv hKc hPc (ci := 3) (q0 := 0) rfl rfl, cP_of hPc hKc hDc (kE_at hE0 hAL hS)⟩ rfl rfl hl.1 rfl (lv_room (Nat.le_of_ble_eq_true rfl)) dL_law_1034 ⟨by show K + 4 + 0 ≤ 601024; omega, by show M + 32 + 0 ≤ 7293034; omega⟩) ?_
  show W _ _ _ _ _ _ _ _ _ _ _ _ _ _ _ (F0 m 1037 ls [.int (k2 (inR v 0 7) (inR u 0 60))])
  refine lv_iload hx hb dL_law_1037 (lv_at hl 1 rfl) ?_
  refine lv_icmp_eq (tgt := 1044) hx hb dL_law_1039 (by decide) (fun _ => ?_) (fun c_104 => absurd (rfl) c_104)
  refine lv_iload hx hb dL_law_1044 (lv_at hl 1 rfl) ?_
  refine lv_if_ne (tgt := 1061) hx hb dL_law_1046 (by decide) (fun c_105 => ?_) (fun c_105 => ?_)
  · refine lv_goto (tgt := 1459) hx hb dL_law_1061 (by decide) ?_
    refine va_forget (fun z9 hz => by rw [hL0]; exact hS.2.2 z9 hz) ?_
    exact nx d r ld li tl mo pl fo fl jp jo jl jn jm jf (k2 (inR v 0 7) (inR u 0 60)) mn fa fq g9 H ls (hI) hP hD ⟨hS.1, hS.2.1, fun _ hz => absurd hz List.not_mem_nil⟩ (lv_sub hl [2, 3, 4, 5, 6] rfl)
  · refine lv_aload_n hx hb dL_law_1049 rfl (lv_at hl 5 rfl) ?_
    refine lv_iconst (v := 0) hx hb dL_law_1050 (by decide) ?_
    refine va_lald hx hb hK hP 15 1 rfl rfl (vp_in_nI (n := 0) (by decide) (by decide)) dL_law_1051 ?_
    refine c_topl (show g9 (0 : Int32).toNatClampNeg = (faI (faN (fun k => safS fo fl pl u v.toNatClampNeg k) 28 3)).toInt64 from hg9 c_105) ?_
    refine lv_iload hx hb dL_law_1052 (lv_at hl 0 rfl) ?_
    refine lv_i2l hx hb dL_law_1054 rfl ?_
    refine c_topl (show (if k2 (inR v 0 7) (inR u 0 60) = 0 then faI (faN (fun k => safS fo fl pl u v.toNatClampNeg k) 28 3) else 0).toInt64 = (faI (faN (fun k => safS fo fl pl u v.toNatClampNeg k) 28 3)).toInt64 from by rw [if_pos c_105]) ?_
    refine c_lcmp hx hb dL_law_1055 ?_
    refine lv_if_eq (tgt := 1061) hx hb dL_law_1056 (by decide) (fun _ => ?_) (fun c_106 => absurd (rfl) c_106)
    refine lv_goto (tgt := 1459) hx hb dL_law_1061 (by decide) ?_
    refine va_forget (fun z9 hz => by rw [hL0]; exact hS.2.2 z9 hz) ?_
    exact nx d r ld li tl mo pl fo fl jp jo jl jn jm jf (k2 (inR v 0 7) (inR u 0 60)) mn fa fq g9 H ls (hI) hP hD ⟨hS.1, hS.2.1, fun _ hz => absurd hz List.not_mem_nil⟩ (lv_sub hl [2, 3, 4, 5, 6] rfl)
