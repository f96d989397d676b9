set_option maxHeartbeats 4000000 in
set_option maxRecDepth 100000 in
/-- draw(side, out) -/
theorem k_draw (l : Launch) (D : va_G) (L0 : Nat) (cI : ClassId) (h o q : Nat) (pl : Int32) (fo fl : Nat → Int32) (k : Nat) (v : Int32) (hk : k < 4) : Met l yX1_draw wsX1_draw ({ frames := 0, cells := 0, slots := 0, locals := 0 }) (cP L0 D [(cI, .int)] [(h, .inr (1, [.ref o, .ref q, .int pl])), (o, .inl (cI, 4, .inl fo)), (q, .inl (cI, 28, .inl fl))] [.ref h, .int (nI k), .int v]) (cB none (fun H => va_P D vwCl [(h, .inr (1, [.ref o, .ref q, .int pl])), (o, .inl (cI, 4, .inl (upd fo k v))), (q, .inl (cI, 28, .inl fl))] H) (cA [(h, .inr (1, [.ref o, .ref q, .int pl])), (o, .inl (cI, 4, .inl fo)), (q, .inl (cI, 28, .inl fl))])) 0 0 (cA [(h, .inr (1, [.ref o, .ref q, .int pl])), (o, .inl (cI, 4, .inl fo)), (q, .inl (cI, 28, .inl fl))]) := by
  refine Met.ofW (cc := cX1_draw) (maxL := 3) (ret := none) (by decide) rfl ?_
  intro p e s m args below meth c s₁ B hml hv
  obtain ⟨rfl, hP, hK, hD0, hE0⟩ := hv
  have hx := B.exec
  have hb := B.bytes
  have hRt := B.returns
  have hts := atoms_spec (ws := wsX1_draw) B.pre
  have hown : s.vm.findClass RX1 = some m.cls := findClass_of_methodNamed B.named
  have hlocks := B.notSynchronized
  have hAL : ∀ z9 : Nat, cA [(h, .inr (1, [.ref o, .ref q, .int pl])), (o, .inl (cI, 4, .inl fo)), (q, .inl (cI, 28, .inl fl))] z9 → L0 ≤ z9 := fun z9 ⟨k9, e9, h9⟩ => hD0.2 k9 (z9, e9) h9
  have hD : va_D (cA [(h, .inr (1, [.ref o, .ref q, .int pl])), (o, .inl (cI, 4, .inl fo)), (q, .inl (cI, 28, .inl fl))]) [(h, .inr (1, [.ref o, .ref q, .int pl])), (o, .inl (cI, 4, .inl fo)), (q, .inl (cI, 28, .inl fl))] := ⟨hD0.1, fun k9 z9 h9 => cA_of h9⟩
  generalize hAe : cA [(h, .inr (1, [.ref o, .ref q, .int pl])), (o, .inl (cI, 4, .inl fo)), (q, .inl (cI, 28, .inl fl))] = A at hD hAL ⊢
  have hS : va_S A s.heap s.heap [] := va_S.rf
  have hiX1 : ∀ w ∈ u_ws RX1 TX1 3, w ∈ wsX1_draw := by decide +kernel
  have hl := lv_entry ([.ref h, .int (nI k), .int v]) (n := 3) (Nat.le_of_ble_eq_true rfl)
  rw [lg_entry_eq]
  generalize (lg_sl ([.ref h, .int (nI k), .int v]) ++ List.replicate (3 - (lg_sl ([.ref h, .int (nI k), .int v])).length) Slot.unset).toArray = ls at hl ⊢
  have hl : lv_has ls 3 [(0, .ref h), (1, .int (nI k)), (2, .int v)] := hl
  refine lv_iload_n hx hb dX1_draw_0 rfl (lv_at hl 1 rfl) ?_
  refine lv_if_lt (tgt := 20) hx hb dX1_draw_1 (by decide) (fun c_1 => absurd c_1 (nI_pos (by omega))) (fun _ => ?_)
  refine lv_iload_n hx hb dX1_draw_4 rfl (lv_at hl 1 rfl) ?_
  refine lv_aload_n hx hb dX1_draw_5 rfl (lv_at hl 0 rfl) ?_
  refine va_get (D := D) (ci := 1) (v := .ref o) (C := RX1) (T := TX1) (N := 3) hx hb hts hiX1 hown hK hP 0 rfl rfl 0 (by decide) (hts (.fieldLink RX1 9 "CraneReach$Rig" "outs" "[I") (by decide +kernel)) (fun _ h9 => h9) rfl dX1_draw_6 ?_
  refine va_alen hx hb hK hP 1 0 rfl rfl (v := 4) rfl dX1_draw_9 ?_
  refine lv_icmp_ge (tgt := 20) hx hb dX1_draw_10 (by decide) (fun c_2 => absurd c_2 (nI_ge (b := 4) hk (by decide))) (fun _ => ?_)
  refine lv_aload_n hx hb dX1_draw_13 rfl (lv_at hl 0 rfl) ?_
  refine va_get (D := D) (ci := 1) (v := .ref o) (C := RX1) (T := TX1) (N := 3) hx hb hts hiX1 hown hK hP 0 rfl rfl 0 (by decide) (hts (.fieldLink RX1 9 "CraneReach$Rig" "outs" "[I") (by decide +kernel)) (fun _ h9 => h9) rfl dX1_draw_14 ?_
  refine lv_iload_n hx hb dX1_draw_17 rfl (lv_at hl 1 rfl) ?_
  refine lv_iload_n hx hb dX1_draw_18 rfl (lv_at hl 2 rfl) ?_
  refine va_iast hx hb hK hP hD hS 1 0 rfl rfl (vp_in_nI hk (by decide)) dX1_draw_19 (fun H locs hP hD hS => ?_)
  have hP : va_P D vwCl [(h, .inr (1, [.ref o, .ref q, .int pl])), (o, .inl (cI, 4, .inl (upd fo (nI k).toNatClampNeg v))), (q, .inl (cI, 28, .inl fl))] H := hP
  have hD : va_D A [(h, .inr (1, [.ref o, .ref q, .int pl])), (o, .inl (cI, 4, .inl (upd fo (nI k).toNatClampNeg v))), (q, .inl (cI, 28, .inl fl))] := hD
  rw [show (nI k).toNatClampNeg = k from nI_clamp (by omega)] at hP hD
  have hP : va_P D vwCl [(h, .inr (1, [.ref o, .ref q, .int pl])), (o, .inl (cI, 4, .inl (upd fo k v))), (q, .inl (cI, 28, .inl fl))] H := hP
  have hD : va_D A [(h, .inr (1, [.ref o, .ref q, .int pl])), (o, .inl (cI, 4, .inl (upd fo k v))), (q, .inl (cI, 28, .inl fl))] := hD
  exact W.vret hx hb hRt (fun t ht hW => ⟨⟨rfl, by rw [ht]; exact hP⟩, hS.F ht⟩) hS.2.2 dX1_draw_20
set_option maxHeartbeats 4000000 in
set_option maxRecDepth 100000 in
/-- allow(metres, limit) -/
theorem k_allow (l : Launch) (D : va_G) (L0 : Nat) (cI : ClassId) (h o q : Nat) (pl : Int32) (fo fl : Nat → Int32) (r : Nat) (v : Int32) (hr : 3 ≤ r ∧ r ≤ 30) : Met l yX1_allow wsX1_allow ({ frames := 0, cells := 0, slots := 0, locals := 0 }) (cP L0 D [(cI, .int)] [(h, .inr (1, [.ref o, .ref q, .int pl])), (o, .inl (cI, 4, .inl fo)), (q, .inl (cI, 28, .inl fl))] [.ref h, .int (nI r), .int v]) (cB none (fun H => va_P D vwCl [(h, .inr (1, [.ref o, .ref q, .int pl])), (o, .inl (cI, 4, .inl fo)), (q, .inl (cI, 28, .inl (upd fl (r - 3) v)))] H) (cA [(h, .inr (1, [.ref o, .ref q, .int pl])), (o, .inl (cI, 4, .inl fo)), (q, .inl (cI, 28, .inl fl))])) 0 0 (cA [(h, .inr (1, [.ref o, .ref q, .int pl])), (o, .inl (cI, 4, .inl fo)), (q, .inl (cI, 28, .inl fl))]) := by
  refine Met.ofW (cc := cX1_allow) (maxL := 4) (ret := none) (by decide) rfl ?_
  intro p e s m args below meth c s₁ B hml hv
  obtain ⟨rfl, hP, hK, hD0, hE0⟩ := hv
  have hx := B.exec
  have hb := B.bytes
  have hRt := B.returns
  have hts := atoms_spec (ws := wsX1_allow) B.pre
  have hown : s.vm.findClass RX1 = some m.cls := findClass_of_methodNamed B.named
  have hlocks := B.notSynchronized
  have hAL : ∀ z9 : Nat, cA [(h, .inr (1, [.ref o, .ref q, .int pl])), (o, .inl (cI, 4, .inl fo)), (q, .inl (cI, 28, .inl fl))] z9 → L0 ≤ z9 := fun z9 ⟨k9, e9, h9⟩ => hD0.2 k9 (z9, e9) h9
  have hD : va_D (cA [(h, .inr (1, [.ref o, .ref q, .int pl])), (o, .inl (cI, 4, .inl fo)), (q, .inl (cI, 28, .inl fl))]) [(h, .inr (1, [.ref o, .ref q, .int pl])), (o, .inl (cI, 4, .inl fo)), (q, .inl (cI, 28, .inl fl))] := ⟨hD0.1, fun k9 z9 h9 => cA_of h9⟩
  generalize hAe : cA [(h, .inr (1, [.ref o, .ref q, .int pl])), (o, .inl (cI, 4, .inl fo)), (q, .inl (cI, 28, .inl fl))] = A at hD hAL ⊢
  have hS : va_S A s.heap s.heap [] := va_S.rf
  have hiX1 : ∀ w ∈ u_ws RX1 TX1 3, w ∈ wsX1_allow := by decide +kernel
  have hl := lv_entry ([.ref h, .int (nI r), .int v]) (n := 4) (Nat.le_of_ble_eq_true rfl)
  rw [lg_entry_eq]
  generalize (lg_sl ([.ref h, .int (nI r), .int v]) ++ List.replicate (4 - (lg_sl ([.ref h, .int (nI r), .int v])).length) Slot.unset).toArray = ls at hl ⊢
  have hl : lv_has ls 4 [(0, .ref h), (1, .int (nI r)), (2, .int v)] := hl
  refine lv_iload_n hx hb dX1_allow_0 rfl (lv_at hl 1 rfl) ?_
  refine lv_iconst (v := 3) hx hb dX1_allow_1 (by decide) ?_
  refine lv_isub hx hb dX1_allow_2 ?_
  refine c_top (show (nI r) - 3 = nI (r - 3) from pk_sub hr.1) ?_
  refine lv_istore_n (lv' := [(3, .int (nI (r - 3))), (0, .ref h), (1, .int (nI r)), (2, .int v)]) hx hb dX1_allow_3 rfl hl (by decide) rfl (fun ls hl => ?_)
  refine lv_iload_n hx hb dX1_allow_4 rfl (lv_at hl 0 rfl) ?_
  refine lv_if_lt (tgt := 24) hx hb dX1_allow_5 (by decide) (fun c_3 => absurd c_3 (nI_pos (by omega))) (fun _ => ?_)
  refine lv_iload_n hx hb dX1_allow_8 rfl (lv_at hl 0 rfl) ?_
  refine lv_aload_n hx hb dX1_allow_9 rfl (lv_at hl 1 rfl) ?_
  refine va_get (D := D) (ci := 1) (v := .ref q) (C := RX1) (T := TX1) (N := 3) hx hb hts hiX1 hown hK hP 0 rfl rfl 1 (by decide) (hts (.fieldLink RX1 15 "CraneReach$Rig" "limits" "[I") (by decide +kernel)) (fun _ h9 => h9) rfl dX1_allow_10 ?_
  refine va_alen hx hb hK hP 2 0 rfl rfl (v := 28) rfl dX1_allow_13 ?_
  refine lv_icmp_ge (tgt := 24) hx hb dX1_allow_14 (by decide) (fun c_4 => absurd c_4 (nI_ge (b := 28) (by omega) (by decide))) (fun _ => ?_)
  refine lv_aload_n hx hb dX1_allow_17 rfl (lv_at hl 1 rfl) ?_
  refine va_get (D := D) (ci := 1) (v := .ref q) (C := RX1) (T := TX1) (N := 3) hx hb hts hiX1 hown hK hP 0 rfl rfl 1 (by decide) (hts (.fieldLink RX1 15 "CraneReach$Rig" "limits" "[I") (by decide +kernel)) (fun _ h9 => h9) rfl dX1_allow_18 ?_
  refine lv_iload_n hx hb dX1_allow_21 rfl (lv_at hl 0 rfl) ?_
  refine lv_iload_n hx hb dX1_allow_22 rfl (lv_at hl 3 rfl) ?_
  refine va_iast hx hb hK hP hD hS 2 0 rfl rfl (vp_in_nI (by omega) (by decide)) dX1_allow_23 (fun H locs hP hD hS => ?_)
  have hP : va_P D vwCl [(h, .inr (1, [.ref o, .ref q, .int pl])), (o, .inl (cI, 4, .inl fo)), (q, .inl (cI, 28, .inl (upd fl (nI (r - 3)).toNatClampNeg v)))] H := hP
  have hD : va_D A [(h, .inr (1, [.ref o, .ref q, .int pl])), (o, .inl (cI, 4, .inl fo)), (q, .inl (cI, 28, .inl (upd fl (nI (r - 3)).toNatClampNeg v)))] := hD
  rw [show (nI (r - 3)).toNatClampNeg = (r - 3) from nI_clamp (by omega)] at hP hD
  have hP : va_P D vwCl [(h, .inr (1, [.ref o, .ref q, .int pl])), (o, .inl (cI, 4, .inl fo)), (q, .inl (cI, 28, .inl (upd fl (r - 3) v)))] H := hP
  have hD : va_D A [(h, .inr (1, [.ref o, .ref q, .int pl])), (o, .inl (cI, 4, .inl fo)), (q, .inl (cI, 28, .inl (upd fl (r - 3) v)))] := hD
  exact W.vret hx hb hRt (fun t ht hW => ⟨⟨rfl, by rw [ht]; exact hP⟩, hS.F ht⟩) hS.2.2 dX1_allow_24
set_option maxHeartbeats 4000000 in
set_option maxRecDepth 100000 in
/-- becomeLike(other) -/
theorem k_becomeLike (l : Launch) (D : va_G) (L0 : Nat) (cI : ClassId) (h o q : Nat) (pl : Int32) (fo fl : Nat → Int32) (h2 o2 q2 : Nat) (pl2 : Int32) (fo2 fl2 : Nat → Int32) : Met l yX1_becomeLike wsX1_becomeLike ({ frames := 1, cells := 0, slots := 0, locals := 23 }) (cP L0 D [(cI, .int)] [(h, .inr (1, [.ref o, .ref q, .int pl])), (o, .inl (cI, 4, .inl fo)), (q, .inl (cI, 28, .inl fl)), (h2, .inr (1, [.ref o2, .ref q2, .int pl2])), (o2, .inl (cI, 4, .inl fo2)), (q2, .inl (cI, 28, .inl (sh fl2)))] [.ref h, .ref h2]) (cB none (fun H => va_P D vwCl [(h, .inr (1, [.ref o, .ref q, .int pl2])), (o, .inl (cI, 4, .inl fo2)), (q, .inl (cI, 28, .inl (sh fl2))), (h2, .inr (1, [.ref o2, .ref q2, .int pl2])), (o2, .inl (cI, 4, .inl fo2)), (q2, .inl (cI, 28, .inl (sh fl2)))] H) (cA [(h, .inr (1, [.ref o, .ref q, .int pl])), (o, .inl (cI, 4, .inl fo)), (q, .inl (cI, 28, .inl fl)), (h2, .inr (1, [.ref o2, .ref q2, .int pl2])), (o2, .inl (cI, 4, .inl fo2)), (q2, .inl (cI, 28, .inl (sh fl2)))])) 0 0 (cA [(h, .inr (1, [.ref o, .ref q, .int pl])), (o, .inl (cI, 4, .inl fo)), (q, .inl (cI, 28, .inl fl)), (h2, .inr (1, [.ref o2, .ref q2, .int pl2])), (o2, .inl (cI, 4, .inl fo2)), (q2, .inl (cI, 28, .inl (sh fl2)))]) := by
  refine Met.ofW (cc := cX1_becomeLike) (maxL := 3) (ret := none) (by decide) rfl ?_
  intro p e s m args below meth c s₁ B hml hv
  obtain ⟨rfl, hP, hK, hD0, hE0⟩ := hv
  have hx := B.exec
  have hb := B.bytes
  have hRt := B.returns
  have hts := atoms_spec (ws := wsX1_becomeLike) B.pre
  have hown : s.vm.findClass RX1 = some m.cls := findClass_of_methodNamed B.named
  have hlocks := B.notSynchronized
  have hAL : ∀ z9 : Nat, cA [(h, .inr (1, [.ref o, .ref q, .int pl])), (o, .inl (cI, 4, .inl fo)), (q, .inl (cI, 28, .inl fl)), (h2, .inr (1, [.ref o2, .ref q2, .int pl2])), (o2, .inl (cI, 4, .inl fo2)), (q2, .inl (cI, 28, .inl (sh fl2)))] z9 → L0 ≤ z9 := fun z9 ⟨k9, e9, h9⟩ => hD0.2 k9 (z9, e9) h9
  have hD : va_D (cA [(h, .inr (1, [.ref o, .ref q, .int pl])), (o, .inl (cI, 4, .inl fo)), (q, .inl (cI, 28, .inl fl)), (h2, .inr (1, [.ref o2, .ref q2, .int pl2])), (o2, .inl (cI, 4, .inl fo2)), (q2, .inl (cI, 28, .inl (sh fl2)))]) [(h, .inr (1, [.ref o, .ref q, .int pl])), (o, .inl (cI, 4, .inl fo)), (q, .inl (cI, 28, .inl fl)), (h2, .inr (1, [.ref o2, .ref q2, .int pl2])), (o2, .inl (cI, 4, .inl fo2)), (q2, .inl (cI, 28, .inl (sh fl2)))] := ⟨hD0.1, fun k9 z9 h9 => cA_of h9⟩
  generalize hAe : cA [(h, .inr (1, [.ref o, .ref q, .int pl])), (o, .inl (cI, 4, .inl fo)), (q, .inl (cI, 28, .inl fl)), (h2, .inr (1, [.ref o2, .ref q2, .int pl2])), (o2, .inl (cI, 4, .inl fo2)), (q2, .inl (cI, 28, .inl (sh fl2)))] = A at hD hAL ⊢
  have hS : va_S A s.heap s.heap [] := va_S.rf
  have hiX1 : ∀ w ∈ u_ws RX1 TX1 3, w ∈ wsX1_becomeLike := by decide +kernel
  have hl := lv_entry ([.ref h, .ref h2]) (n := 3) (Nat.le_of_ble_eq_true rfl)
  rw [lg_entry_eq]
  generalize (lg_sl ([.ref h, .ref h2]) ++ List.replicate (3 - (lg_sl ([.ref h, .ref h2])).length) Slot.unset).toArray = ls at hl ⊢
  have hl : lv_has ls 3 [(0, .ref h), (1, .ref h2)] := hl
  have loop2 : ∀ (n : Nat) (i : Nat) (gl : Nat → Int32) (H : Heap) (locs : List Loc) (ls : Array Slot), i + n = 32 → 3 ≤ i ∧ i ≤ 31 → (∀ j, j + 3 < i → gl j = sh fl2 j) → lv_has ls 3 [(2, .int (nI i)), (0, .ref h), (1, .ref h2)] → va_P D vwCl [(h, .inr (1, [.ref o, .ref q, .int pl2])), (o, .inl (cI, 4, .inl fo2)), (q, .inl (cI, 28, .inl gl)), (h2, .inr (1, [.ref o2, .ref q2, .int pl2])), (o2, .inl (cI, 4, .inl fo2)), (q2, .inl (cI, 28, .inl (sh fl2)))] H → va_D A [(h, .inr (1, [.ref o, .ref q, .int pl2])), (o, .inl (cI, 4, .inl fo2)), (q, .inl (cI, 28, .inl gl)), (h2, .inr (1, [.ref o2, .ref q2, .int pl2])), (o2, .inl (cI, 4, .inl fo2)), (q2, .inl (cI, 28, .inl (sh fl2)))] → va_S A s.heap H locs → W p l e (headSpec wsX1_becomeLike ({ frames := 1, cells := 0, slots := 0, locals := 23 })).room s m ([.ref h, .ref h2]).toArray below meth c H locs 0 0 (MQ below (cB none (fun H => va_P D vwCl [(h, .inr (1, [.ref o, .ref q, .int pl2])), (o, .inl (cI, 4, .inl fo2)), (q, .inl (cI, 28, .inl (sh fl2))), (h2, .inr (1, [.ref o2, .ref q2, .int pl2])), (o2, .inl (cI, 4, .inl fo2)), (q2, .inl (cI, 28, .inl (sh fl2)))] H) A) ([.ref h, .ref h2]).toArray s 0 0 A) (F0 m 33 ls []) := by
    intro n
    induction n with
    | zero =>
      intro i gl H locs ls hn h3 hg hl hP hD hS
      exact absurd hn (by omega)
    | succ n ih =>
      intro i gl H locs ls hn h3 hg hl hP hD hS
      refine lv_iload_n hx hb dX1_becomeLike_33 rfl (lv_at hl 0 rfl) ?_
      refine lv_bipush (v := 30) hx hb dX1_becomeLike_34 (by decide) ?_
      refine lv_icmp_gt (tgt := 55) hx hb dX1_becomeLike_36 (by decide) (fun c_5 => ?_) (fun c_5 => ?_)
      · have hi : i = 31 := by
          rcases Nat.lt_or_ge 30 i with z | z
          · omega
          · exact absurd c_5 (Int32.not_lt.mpr (nI_le (b := 30) z (by decide)))
        have hP : va_P D vwCl [(h, .inr (1, [.ref o, .ref q, .int pl2])), (o, .inl (cI, 4, .inl fo2)), (q, .inl (cI, 28, .inl (sh fl2))), (h2, .inr (1, [.ref o2, .ref q2, .int pl2])), (o2, .inl (cI, 4, .inl fo2)), (q2, .inl (cI, 28, .inl (sh fl2)))] H := by
          intro k z hz
          match k, hz with
          | 0, hz => exact hP 0 z hz
          | 1, hz => exact hP 1 z hz
          | 2, hz => cases hz; exact arr_same (hP 2 _ rfl) (fun j hj => hg j (by omega))
          | 3, hz => exact hP 3 z hz
          | 4, hz => exact hP 4 z hz
          | 5, hz => exact hP 5 z hz
          | k + 6, hz => cases hz
        exact W.vret hx hb hRt (fun t ht hW => ⟨⟨rfl, by rw [ht]; exact hP⟩, hS.F ht⟩) hS.2.2 dX1_becomeLike_55
      · have hi : i ≤ 30 := by
          rcases Nat.lt_or_ge 30 i with z | z
          · exact absurd (nI_lt (a := 30) z (by omega)) c_5
          · exact z
        refine lv_aload_n hx hb dX1_becomeLike_39 rfl (lv_at hl 1 rfl) ?_
        refine lv_iload_n hx hb dX1_becomeLike_40 rfl (lv_at hl 0 rfl) ?_
        refine lv_aload_n hx hb dX1_becomeLike_41 rfl (lv_at hl 2 rfl) ?_
        refine lv_iload_n hx hb dX1_becomeLike_42 rfl (lv_at hl 0 rfl) ?_
        have hPc := hP.sub (ws' := [(h2, .inr (1, [.ref o2, .ref q2, .int pl2])), (o2, .inl (cI, 4, .inl fo2)), (q2, .inl (cI, 28, .inl (sh fl2)))]) [3, 4, 5] rfl
        have hDc : va_D (fun q : Nat => L0 ≤ q) [(h2, .inr (1, [.ref o2, .ref q2, .int pl2])), (o2, .inl (cI, 4, .inl fo2)), (q2, .inl (cI, 28, .inl (sh fl2)))] := (hD.sub (ws' := [(h2, .inr (1, [.ref o2, .ref q2, .int pl2])), (o2, .inl (cI, 4, .inl fo2)), (q2, .inl (cI, 28, .inl (sh fl2)))]) [3, 4, 5] (by decide) rfl).weaken (fun _ z9 _ h9 => hAL _ h9)
        have hKc := hK.sub (tys' := [(cI, .int)]) [0] rfl
        refine c_callR (va_runV (As := [.int (nI i)]) (rest := [.int (nI i), .ref h]) ⟨hx, hb, hml, hown, hts⟩ (k_allowed l D L0 cI h2 o2 q2 pl2 fo2 (sh fl2) i ⟨h3.1, hi⟩) (cwV 1 hts gX1_becomeLike_X1_allowed rfl rfl rfl (by decide +kernel) ⟨Nat.le_of_ble_eq_true rfl, Nat.le_of_ble_eq_true rfl⟩) ⟨cP_blind, va_recv hKc hPc (ci := 1) (q0 := 0) rfl rfl, cP_of hPc hKc hDc (kE_at hE0 hAL hS)⟩ rfl rfl hl.1 rfl (lv_room (Nat.le_of_ble_eq_true rfl)) dX1_becomeLike_43 ⟨Nat.le_of_ble_eq_true rfl, Nat.le_of_ble_eq_true rfl⟩) ?_
        show W _ _ _ _ _ _ _ _ _ _ _ _ _ _ _ (F0 m 46 ls [.int (sh fl2 (i - 3)), .int (nI i), .ref h])
        refine c_top (show sh fl2 (i - 3) = fl2 i from sh_at h3.1) ?_
        have hPc := hP.sub (ws' := [(h, .inr (1, [.ref o, .ref q, .int pl2])), (o, .inl (cI, 4, .inl fo2)), (q, .inl (cI, 28, .inl gl))]) [0, 1, 2] rfl
        have hDc : va_D (fun q : Nat => L0 ≤ q) [(h, .inr (1, [.ref o, .ref q, .int pl2])), (o, .inl (cI, 4, .inl fo2)), (q, .inl (cI, 28, .inl gl))] := (hD.sub (ws' := [(h, .inr (1, [.ref o, .ref q, .int pl2])), (o, .inl (cI, 4, .inl fo2)), (q, .inl (cI, 28, .inl gl))]) [0, 1, 2] (by decide) rfl).weaken (fun _ z9 _ h9 => hAL _ h9)
        have hKc := hK.sub (tys' := [(cI, .int)]) [0] rfl
        refine c_callB (va_runV (As := [.int (nI i), .int (fl2 i)]) (rest := []) ⟨hx, hb, hml, hown, hts⟩ (k_allow l D L0 cI h o q pl2 fo2 gl i (fl2 i) ⟨h3.1, hi⟩) (cwV 2 hts gX1_becomeLike_X1_allow rfl rfl rfl (by decide +kernel) ⟨Nat.le_of_ble_eq_true rfl, Nat.le_of_ble_eq_true rfl⟩) ⟨cP_blind, va_recv hKc hPc (ci := 1) (q0 := 0) rfl rfl, cP_of hPc hKc hDc (kE_at hE0 hAL hS)⟩ rfl rfl hl.1 rfl (lv_room (Nat.le_of_ble_eq_true rfl)) dX1_becomeLike_46 ⟨Nat.le_of_ble_eq_true rfl, Nat.le_of_ble_eq_true rfl⟩) hS (fun z9 _ ⟨k9, e9, h9⟩ => (hD.sub (ws' := [(h, .inr (1, [.ref o, .ref q, .int pl2])), (o, .inl (cI, 4, .inl fo2)), (q, .inl (cI, 28, .inl gl))]) [0, 1, 2] (by decide) rfl).2 k9 (z9, e9) h9) (fun z9 ⟨k9, e9, h9⟩ => (hD.sub (ws' := [(h, .inr (1, [.ref o, .ref q, .int pl2])), (o, .inl (cI, 4, .inl fo2)), (q, .inl (cI, 28, .inl gl))]) [0, 1, 2] (by decide) rfl).2 k9 (z9, e9) h9) (fun H1 locs hB hz1 hk1 hS => ?_)
        obtain ⟨hP, hD⟩ := c_join (ws' := [(h, .inr (1, [.ref o, .ref q, .int pl2])), (o, .inl (cI, 4, .inl fo2)), (q, .inl (cI, 28, .inl (upd gl (i - 3) (fl2 i)))), (h2, .inr (1, [.ref o2, .ref q2, .int pl2])), (o2, .inl (cI, 4, .inl fo2)), (q2, .inl (cI, 28, .inl (sh fl2)))]) (wr := [(h2, .inr (1, [.ref o2, .ref q2, .int pl2])), (o2, .inl (cI, 4, .inl fo2)), (q2, .inl (cI, 28, .inl (sh fl2)))]) (w1 := [(h, .inr (1, [.ref o, .ref q, .int pl2])), (o, .inl (cI, 4, .inl fo2)), (q, .inl (cI, 28, .inl (upd gl (i - 3) (fl2 i))))]) hP hD [0, 1, 2] [3, 4, 5] [3, 4, 5, 0, 1, 2] rfl rfl (by decide) (by decide) hk1 hB rfl rfl rfl (by decide)
        generalize H1 = H at hP hS ⊢
        show W _ _ _ _ _ _ _ _ _ _ _ _ _ _ _ (F0 m 49 ls [])
        refine lv_iinc (v := (nI i) + 1) (lv' := [(2, .int ((nI i) + 1)), (0, .ref h), (1, .ref h2)]) hx hb dX1_becomeLike_49 hl (k := 0) rfl rfl (by decide) rfl (fun ls hl => ?_)
        refine lv_goto (tgt := 33) hx hb dX1_becomeLike_52 (by decide) ?_
        have hl : lv_has ls 3 [(2, .int (nI (i + 1))), (0, .ref h), (1, .ref h2)] := (show (nI i) + 1 = nI (i + 1) from nI_1 i) ▸ hl
        exact ih (i + 1) _ _ _ _ (by omega) (by omega) (fun j hj => by
              by_cases e : j = i - 3
              · subst e; rw [pk_us]; congr 1; omega
              · rw [pk_un e]; exact hg j (by omega)) (lv_sub hl [0, 1, 2] rfl) hP hD hS
  refine lv_aload_n hx hb dX1_becomeLike_0 rfl (lv_at hl 0 rfl) ?_
  refine lv_aload_n hx hb dX1_becomeLike_1 rfl (lv_at hl 1 rfl) ?_
  refine va_get (D := D) (ci := 1) (v := .int pl2) (C := RX1) (T := TX1) (N := 3) hx hb hts hiX1 hown hK hP 3 rfl rfl 2 (by decide) (hts (.fieldLink RX1 18 "CraneReach$Rig" "plates" "I") (by decide +kernel)) (fun _ h9 => h9) rfl dX1_becomeLike_2 ?_
  refine va_put (D := D) (ci := 1) (v := .int pl2) (ty := .int) (C := RX1) (T := TX1) (N := 3) hx hb hts hiX1 tyX1 tyX1_ok nmX1 hown hK hP hD hS 0 rfl rfl 2 (by decide) (hts (.fieldLink RX1 18 "CraneReach$Rig" "plates" "I") (by decide +kernel)) (fun _ h9 => h9) rfl (by decide +kernel) rfl rfl (Nat.le_of_ble_eq_true rfl) dX1_becomeLike_5 (fun H locs hP hD hS => ?_)
  have hP : va_P D vwCl [(h, .inr (1, [.ref o, .ref q, .int pl2])), (o, .inl (cI, 4, .inl fo)), (q, .inl (cI, 28, .inl fl)), (h2, .inr (1, [.ref o2, .ref q2, .int pl2])), (o2, .inl (cI, 4, .inl fo2)), (q2, .inl (cI, 28, .inl (sh fl2)))] H := hP
  have hD : va_D A [(h, .inr (1, [.ref o, .ref q, .int pl2])), (o, .inl (cI, 4, .inl fo)), (q, .inl (cI, 28, .inl fl)), (h2, .inr (1, [.ref o2, .ref q2, .int pl2])), (o2, .inl (cI, 4, .inl fo2)), (q2, .inl (cI, 28, .inl (sh fl2)))] := hD
  refine lv_iconst (v := 0) hx hb dX1_becomeLike_8 (by decide) ?_
  refine lv_istore_n (lv' := [(2, .int 0), (0, .ref h), (1, .ref h2)]) hx hb dX1_becomeLike_9 rfl hl (by decide) rfl (fun ls hl => ?_)
  refine lv_iload_n hx hb dX1_becomeLike_10 rfl (lv_at hl 0 rfl) ?_
  refine lv_iconst (v := 4) hx hb dX1_becomeLike_11 (by decide) ?_
  refine lv_icmp_ge (tgt := 31) hx hb dX1_becomeLike_12 (by decide) (fun c_6 => absurd c_6 (by decide)) (fun _ => ?_)
  refine lv_aload_n hx hb dX1_becomeLike_15 rfl (lv_at hl 1 rfl) ?_
  refine lv_iload_n hx hb dX1_becomeLike_16 rfl (lv_at hl 0 rfl) ?_
  refine lv_aload_n hx hb dX1_becomeLike_17 rfl (lv_at hl 2 rfl) ?_
  refine lv_iload_n hx hb dX1_becomeLike_18 rfl (lv_at hl 0 rfl) ?_
  have hPc := hP.sub (ws' := [(h2, .inr (1, [.ref o2, .ref q2, .int pl2])), (o2, .inl (cI, 4, .inl fo2)), (q2, .inl (cI, 28, .inl (sh fl2)))]) [3, 4, 5] rfl
  have hDc : va_D (fun q : Nat => L0 ≤ q) [(h2, .inr (1, [.ref o2, .ref q2, .int pl2])), (o2, .inl (cI, 4, .inl fo2)), (q2, .inl (cI, 28, .inl (sh fl2)))] := (hD.sub (ws' := [(h2, .inr (1, [.ref o2, .ref q2, .int pl2])), (o2, .inl (cI, 4, .inl fo2)), (q2, .inl (cI, 28, .inl (sh fl2)))]) [3, 4, 5] (by decide) rfl).weaken (fun _ z9 _ h9 => hAL _ h9)
  have hKc := hK.sub (tys' := [(cI, .int)]) [0] rfl
  refine c_callR (va_runV (As := [.int (nI 0)]) (rest := [.int 0, .ref h]) ⟨hx, hb, hml, hown, hts⟩ (k_drawn l D L0 cI h2 o2 q2 pl2 fo2 (sh fl2) 0 (by decide)) (cwV 1 hts gX1_becomeLike_X1_drawn rfl rfl rfl (by decide +kernel) ⟨Nat.le_of_ble_eq_true rfl, Nat.le_of_ble_eq_true rfl⟩) ⟨cP_blind, va_recv hKc hPc (ci := 1) (q0 := 0) rfl rfl, cP_of hPc hKc hDc (kE_at hE0 hAL hS)⟩ rfl rfl hl.1 rfl (lv_room (Nat.le_of_ble_eq_true rfl)) dX1_becomeLike_19 ⟨Nat.le_of_ble_eq_true rfl, Nat.le_of_ble_eq_true rfl⟩) ?_
  show W _ _ _ _ _ _ _ _ _ _ _ _ _ _ _ (F0 m 22 ls [.int (fo2 0), .int 0, .ref h])
  have hPc := hP.sub (ws' := [(h, .inr (1, [.ref o, .ref q, .int pl2])), (o, .inl (cI, 4, .inl fo)), (q, .inl (cI, 28, .inl fl))]) [0, 1, 2] rfl
  have hDc : va_D (fun q : Nat => L0 ≤ q) [(h, .inr (1, [.ref o, .ref q, .int pl2])), (o, .inl (cI, 4, .inl fo)), (q, .inl (cI, 28, .inl fl))] := (hD.sub (ws' := [(h, .inr (1, [.ref o, .ref q, .int pl2])), (o, .inl (cI, 4, .inl fo)), (q, .inl (cI, 28, .inl fl))]) [0, 1, 2] (by decide) rfl).weaken (fun _ z9 _ h9 => hAL _ h9)
  have hKc := hK.sub (tys' := [(cI, .int)]) [0] rfl
  refine c_callB (va_runV (As := [.int (nI 0), .int (fo2 0)]) (rest := []) ⟨hx, hb, hml, hown, hts⟩ (k_draw l D L0 cI h o q pl2 fo fl 0 (fo2 0) (by decide)) (cwV 2 hts gX1_becomeLike_X1_draw rfl rfl rfl (by decide +kernel) ⟨Nat.le_of_ble_eq_true rfl, Nat.le_of_ble_eq_true rfl⟩) ⟨cP_blind, va_recv hKc hPc (ci := 1) (q0 := 0) rfl rfl, cP_of hPc hKc hDc (kE_at hE0 hAL hS)⟩ rfl rfl hl.1 rfl (lv_room (Nat.le_of_ble_eq_true rfl)) dX1_becomeLike_22 ⟨Nat.le_of_ble_eq_true rfl, Nat.le_of_ble_eq_true rfl⟩) hS (fun z9 _ ⟨k9, e9, h9⟩ => (hD.sub (ws' := [(h, .inr (1, [.ref o, .ref q, .int pl2])), (o, .inl (cI, 4, .inl fo)), (q, .inl (cI, 28, .inl fl))]) [0, 1, 2] (by decide) rfl).2 k9 (z9, e9) h9) (fun z9 ⟨k9, e9, h9⟩ => (hD.sub (ws' := [(h, .inr (1, [.ref o, .ref q, .int pl2])), (o, .inl (cI, 4, .inl fo)), (q, .inl (cI, 28, .inl fl))]) [0, 1, 2] (by decide) rfl).2 k9 (z9, e9) h9) (fun H1 locs hB hz1 hk1 hS => ?_)
  obtain ⟨hP, hD⟩ := c_join (ws' := [(h, .inr (1, [.ref o, .ref q, .int pl2])), (o, .inl (cI, 4, .inl (upd fo 0 (fo2 0)))), (q, .inl (cI, 28, .inl fl)), (h2, .inr (1, [.ref o2, .ref q2, .int pl2])), (o2, .inl (cI, 4, .inl fo2)), (q2, .inl (cI, 28, .inl (sh fl2)))]) (wr := [(h2, .inr (1, [.ref o2, .ref q2, .int pl2])), (o2, .inl (cI, 4, .inl fo2)), (q2, .inl (cI, 28, .inl (sh fl2)))]) (w1 := [(h, .inr (1, [.ref o, .ref q, .int pl2])), (o, .inl (cI, 4, .inl (upd fo 0 (fo2 0)))), (q, .inl (cI, 28, .inl fl))]) hP hD [0, 1, 2] [3, 4, 5] [3, 4, 5, 0, 1, 2] rfl rfl (by decide) (by decide) hk1 hB rfl rfl rfl (by decide)
  generalize H1 = H at hP hS ⊢
  show W _ _ _ _ _ _ _ _ _ _ _ _ _ _ _ (F0 m 25 ls [])
  refine lv_iinc (v := 1) (lv' := [(2, .int 1), (0, .ref h), (1, .ref h2)]) hx hb dX1_becomeLike_25 hl (k := 0) rfl (by decide) (by decide) rfl (fun ls hl => ?_)
  refine lv_goto (tgt := 10) hx hb dX1_becomeLike_28 (by decide) ?_
  refine lv_iload_n hx hb dX1_becomeLike_10 rfl (lv_at hl 0 rfl) ?_
  refine lv_iconst (v := 4) hx hb dX1_becomeLike_11 (by decide) ?_
  refine lv_icmp_ge (tgt := 31) hx hb dX1_becomeLike_12 (by decide) (fun c_7 => absurd c_7 (by decide)) (fun _ => ?_)
  refine lv_aload_n hx hb dX1_becomeLike_15 rfl (lv_at hl 1 rfl) ?_
  refine lv_iload_n hx hb dX1_becomeLike_16 rfl (lv_at hl 0 rfl) ?_
  refine lv_aload_n hx hb dX1_becomeLike_17 rfl (lv_at hl 2 rfl) ?_
  refine lv_iload_n hx hb dX1_becomeLike_18 rfl (lv_at hl 0 rfl) ?_
  have hPc := hP.sub (ws' := [(h2, .inr (1, [.ref o2, .ref q2, .int pl2])), (o2, .inl (cI, 4, .inl fo2)), (q2, .inl (cI, 28, .inl (sh fl2)))]) [3, 4, 5] rfl
  have hDc : va_D (fun q : Nat => L0 ≤ q) [(h2, .inr (1, [.ref o2, .ref q2, .int pl2])), (o2, .inl (cI, 4, .inl fo2)), (q2, .inl (cI, 28, .inl (sh fl2)))] := (hD.sub (ws' := [(h2, .inr (1, [.ref o2, .ref q2, .int pl2])), (o2, .inl (cI, 4, .inl fo2)), (q2, .inl (cI, 28, .inl (sh fl2)))]) [3, 4, 5] (by decide) rfl).weaken (fun _ z9 _ h9 => hAL _ h9)
  have hKc := hK.sub (tys' := [(cI, .int)]) [0] rfl
  refine c_callR (va_runV (As := [.int (nI 1)]) (rest := [.int 1, .ref h]) ⟨hx, hb, hml, hown, hts⟩ (k_drawn l D L0 cI h2 o2 q2 pl2 fo2 (sh fl2) 1 (by decide)) (cwV 1 hts gX1_becomeLike_X1_drawn rfl rfl rfl (by decide +kernel) ⟨Nat.le_of_ble_eq_true rfl, Nat.le_of_ble_eq_true rfl⟩) ⟨cP_blind, va_recv hKc hPc (ci := 1) (q0 := 0) rfl rfl, cP_of hPc hKc hDc (kE_at hE0 hAL hS)⟩ rfl rfl hl.1 rfl (lv_room (Nat.le_of_ble_eq_true rfl)) dX1_becomeLike_19 ⟨Nat.le_of_ble_eq_true rfl, Nat.le_of_ble_eq_true rfl⟩) ?_
  show W _ _ _ _ _ _ _ _ _ _ _ _ _ _ _ (F0 m 22 ls [.int (fo2 1), .int 1, .ref h])
  have hPc := hP.sub (ws' := [(h, .inr (1, [.ref o, .ref q, .int pl2])), (o, .inl (cI, 4, .inl (upd fo 0 (fo2 0)))), (q, .inl (cI, 28, .inl fl))]) [0, 1, 2] rfl
  have hDc : va_D (fun q : Nat => L0 ≤ q) [(h, .inr (1, [.ref o, .ref q, .int pl2])), (o, .inl (cI, 4, .inl (upd fo 0 (fo2 0)))), (q, .inl (cI, 28, .inl fl))] := (hD.sub (ws' := [(h, .inr (1, [.ref o, .ref q, .int pl2])), (o, .inl (cI, 4, .inl (upd fo 0 (fo2 0)))), (q, .inl (cI, 28, .inl fl))]) [0, 1, 2] (by decide) rfl).weaken (fun _ z9 _ h9 => hAL _ h9)
  have hKc := hK.sub (tys' := [(cI, .int)]) [0] rfl
  refine c_callB (va_runV (As := [.int (nI 1), .int (fo2 1)]) (rest := []) ⟨hx, hb, hml, hown, hts⟩ (k_draw l D L0 cI h o q pl2 (upd fo 0 (fo2 0)) fl 1 (fo2 1) (by decide)) (cwV 2 hts gX1_becomeLike_X1_draw rfl rfl rfl (by decide +kernel) ⟨Nat.le_of_ble_eq_true rfl, Nat.le_of_ble_eq_true rfl⟩) ⟨cP_blind, va_recv hKc hPc (ci := 1) (q0 := 0) rfl rfl, cP_of hPc hKc hDc (kE_at hE0 hAL hS)⟩ rfl rfl hl.1 rfl (lv_room (Nat.le_of_ble_eq_true rfl)) dX1_becomeLike_22 ⟨Nat.le_of_ble_eq_true rfl, Nat.le_of_ble_eq_true rfl⟩) hS (fun z9 _ ⟨k9, e9, h9⟩ => (hD.sub (ws' := [(h, .inr (1, [.ref o, .ref q, .int pl2])), (o, .inl (cI, 4, .inl (upd fo 0 (fo2 0)))), (q, .inl (cI, 28, .inl fl))]) [0, 1, 2] (by decide) rfl).2 k9 (z9, e9) h9) (fun z9 ⟨k9, e9, h9⟩ => (hD.sub (ws' := [(h, .inr (1, [.ref o, .ref q, .int pl2])), (o, .inl (cI, 4, .inl (upd fo 0 (fo2 0)))), (q, .inl (cI, 28, .inl fl))]) [0, 1, 2] (by decide) rfl).2 k9 (z9, e9) h9) (fun H1 locs hB hz1 hk1 hS => ?_)
  obtain ⟨hP, hD⟩ := c_join (ws' := [(h, .inr (1, [.ref o, .ref q, .int pl2])), (o, .inl (cI, 4, .inl (upd (upd fo 0 (fo2 0)) 1 (fo2 1)))), (q, .inl (cI, 28, .inl fl)), (h2, .inr (1, [.ref o2, .ref q2, .int pl2])), (o2, .inl (cI, 4, .inl fo2)), (q2, .inl (cI, 28, .inl (sh fl2)))]) (wr := [(h2, .inr (1, [.ref o2, .ref q2, .int pl2])), (o2, .inl (cI, 4, .inl fo2)), (q2, .inl (cI, 28, .inl (sh fl2)))]) (w1 := [(h, .inr (1, [.ref o, .ref q, .int pl2])), (o, .inl (cI, 4, .inl (upd (upd fo 0 (fo2 0)) 1 (fo2 1)))), (q, .inl (cI, 28, .inl fl))]) hP hD [0, 1, 2] [3, 4, 5] [3, 4, 5, 0, 1, 2] rfl rfl (by decide) (by decide) hk1 hB rfl rfl rfl (by decide)
  generalize H1 = H at hP hS ⊢
  show W _ _ _ _ _ _ _ _ _ _ _ _ _ _ _ (F0 m 25 ls [])
  refine lv_iinc (v := 2) (lv' := [(2, .int 2), (0, .ref h), (1, .ref h2)]) hx hb dX1_becomeLike_25 hl (k := 0) rfl (by decide) (by decide) rfl (fun ls hl => ?_)
  refine lv_goto (tgt := 10) hx hb dX1_becomeLike_28 (by decide) ?_
  refine lv_iload_n hx hb dX1_becomeLike_10 rfl (lv_at hl 0 rfl) ?_
  refine lv_iconst (v := 4) hx hb dX1_becomeLike_11 (by decide) ?_
  refine lv_icmp_ge (tgt := 31) hx hb dX1_becomeLike_12 (by decide) (fun c_8 => absurd c_8 (by decide)) (fun _ => ?_)
  refine lv_aload_n hx hb dX1_becomeLike_15 rfl (lv_at hl 1 rfl) ?_
  refine lv_iload_n hx hb dX1_becomeLike_16 rfl (lv_at hl 0 rfl) ?_
  refine lv_aload_n hx hb dX1_becomeLike_17 rfl (lv_at hl 2 rfl) ?_
  refine lv_iload_n hx hb dX1_becomeLike_18 rfl (lv_at hl 0 rfl) ?_
  have hPc := hP.sub (ws' := [(h2, .inr (1, [.ref o2, .ref q2, .int pl2])), (o2, .inl (cI, 4, .inl fo2)), (q2, .inl (cI, 28, .inl (sh fl2)))]) [3, 4, 5] rfl
  have hDc : va_D (fun q : Nat => L0 ≤ q) [(h2, .inr (1, [.ref o2, .ref q2, .int pl2])), (o2, .inl (cI, 4, .inl fo2)), (q2, .inl (cI, 28, .inl (sh fl2)))] := (hD.sub (ws' := [(h2, .inr (1, [.ref o2, .ref q2, .int pl2])), (o2, .inl (cI, 4, .inl fo2)), (q2, .inl (cI, 28, .inl (sh fl2)))]) [3, 4, 5] (by decide) rfl).weaken (fun _ z9 _ h9 => hAL _ h9)
  have hKc := hK.sub (tys' := [(cI, .int)]) [0] rfl
  refine c_callR (va_runV (As := [.int (nI 2)]) (rest := [.int 2, .ref h]) ⟨hx, hb, hml, hown, hts⟩ (k_drawn l D L0 cI h2 o2 q2 pl2 fo2 (sh fl2) 2 (by decide)) (cwV 1 hts gX1_becomeLike_X1_drawn rfl rfl rfl (by decide +kernel) ⟨Nat.le_of_ble_eq_true rfl, Nat.le_of_ble_eq_true rfl⟩) ⟨cP_blind, va_recv hKc hPc (ci := 1) (q0 := 0) rfl rfl, cP_of hPc hKc hDc (kE_at hE0 hAL hS)⟩ rfl rfl hl.1 rfl (lv_room (Nat.le_of_ble_eq_true rfl)) dX1_becomeLike_19 ⟨Nat.le_of_ble_eq_true rfl, Nat.le_of_ble_eq_true rfl⟩) ?_
  show W _ _ _ _ _ _ _ _ _ _ _ _ _ _ _ (F0 m 22 ls [.int (fo2 2), .int 2, .ref h])
  have hPc := hP.sub (ws' := [(h, .inr (1, [.ref o, .ref q, .int pl2])), (o, .inl (cI, 4, .inl (upd (upd fo 0 (fo2 0)) 1 (fo2 1)))), (q, .inl (cI, 28, .inl fl))]) [0, 1, 2] rfl
  have hDc : va_D (fun q : Nat => L0 ≤ q) [(h, .inr (1, [.ref o, .ref q, .int pl2])), (o, .inl (cI, 4, .inl (upd (upd fo 0 (fo2 0)) 1 (fo2 1)))), (q, .inl (cI, 28, .inl fl))] := (hD.sub (ws' := [(h, .inr (1, [.ref o, .ref q, .int pl2])), (o, .inl (cI, 4, .inl (upd (upd fo 0 (fo2 0)) 1 (fo2 1)))), (q, .inl (cI, 28, .inl fl))]) [0, 1, 2] (by decide) rfl).weaken (fun _ z9 _ h9 => hAL _ h9)
  have hKc := hK.sub (tys' := [(cI, .int)]) [0] rfl
  refine c_callB (va_runV (As := [.int (nI 2), .int (fo2 2)]) (rest := []) ⟨hx, hb, hml, hown, hts⟩ (k_draw l D L0 cI h o q pl2 (upd (upd fo 0 (fo2 0)) 1 (fo2 1)) fl 2 (fo2 2) (by decide)) (cwV 2 hts gX1_becomeLike_X1_draw rfl rfl rfl (by decide +kernel) ⟨Nat.le_of_ble_eq_true rfl, Nat.le_of_ble_eq_true rfl⟩) ⟨cP_blind, va_recv hKc hPc (ci := 1) (q0 := 0) rfl rfl, cP_of hPc hKc hDc (kE_at hE0 hAL hS)⟩ rfl rfl hl.1 rfl (lv_room (Nat.le_of_ble_eq_true rfl)) dX1_becomeLike_22 ⟨Nat.le_of_ble_eq_true rfl, Nat.le_of_ble_eq_true rfl⟩) hS (fun z9 _ ⟨k9, e9, h9⟩ => (hD.sub (ws' := [(h, .inr (1, [.ref o, .ref q, .int pl2])), (o, .inl (cI, 4, .inl (upd (upd fo 0 (fo2 0)) 1 (fo2 1)))), (q, .inl (cI, 28, .inl fl))]) [0, 1, 2] (by decide) rfl).2 k9 (z9, e9) h9) (fun z9 ⟨k9, e9, h9⟩ => (hD.sub (ws' := [(h, .inr (1, [.ref o, .ref q, .int pl2])), (o, .inl (cI, 4, .inl (upd (upd fo 0 (fo2 0)) 1 (fo2 1)))), (q, .inl (cI, 28, .inl fl))]) [0, 1, 2] (by decide) rfl).2 k9 (z9, e9) h9) (fun H1 locs hB hz1 hk1 hS => ?_)
  obtain ⟨hP, hD⟩ := c_join (ws' := [(h, .inr (1, [.ref o, .ref q, .int pl2])), (o, .inl (cI, 4, .inl (upd (upd (upd fo 0 (fo2 0)) 1 (fo2 1)) 2 (fo2 2)))), (q, .inl (cI, 28, .inl fl)), (h2, .inr (1, [.ref o2, .ref q2, .int pl2])), (o2, .inl (cI, 4, .inl fo2)), (q2, .inl (cI, 28, .inl (sh fl2)))]) (wr := [(h2, .inr (1, [.ref o2, .ref q2, .int pl2])), (o2, .inl (cI, 4, .inl fo2)), (q2, .inl (cI, 28, .inl (sh fl2)))]) (w1 := [(h, .inr (1, [.ref o, .ref q, .int pl2])), (o, .inl (cI, 4, .inl (upd (upd (upd fo 0 (fo2 0)) 1 (fo2 1)) 2 (fo2 2)))), (q, .inl (cI, 28, .inl fl))]) hP hD [0, 1, 2] [3, 4, 5] [3, 4, 5, 0, 1, 2] rfl rfl (by decide) (by decide) hk1 hB rfl rfl rfl (by decide)
  generalize H1 = H at hP hS ⊢
  show W _ _ _ _ _ _ _ _ _ _ _ _ _ _ _ (F0 m 25 ls [])
  refine lv_iinc (v := 3) (lv' := [(2, .int 3), (0, .ref h), (1, .ref h2)]) hx hb dX1_becomeLike_25 hl (k := 0) rfl (by decide) (by decide) rfl (fun ls hl => ?_)
  refine lv_goto (tgt := 10) hx hb dX1_becomeLike_28 (by decide) ?_
  refine lv_iload_n hx hb dX1_becomeLike_10 rfl (lv_at hl 0 rfl) ?_
  refine lv_iconst (v := 4) hx hb dX1_becomeLike_11 (by decide) ?_
  refine lv_icmp_ge (tgt := 31) hx hb dX1_becomeLike_12 (by decide) (fun c_9 => absurd c_9 (by decide)) (fun _ => ?_)
  refine lv_aload_n hx hb dX1_becomeLike_15 rfl (lv_at hl 1 rfl) ?_
  refine lv_iload_n hx hb dX1_becomeLike_16 rfl (lv_at hl 0 rfl) ?_
  refine lv_aload_n hx hb dX1_becomeLike_17 rfl (lv_at hl 2 rfl) ?_
  refine lv_iload_n hx hb dX1_becomeLike_18 rfl (lv_at hl 0 rfl) ?_
  have hPc := hP.sub (ws' := [(h2, .inr (1, [.ref o2, .ref q2, .int pl2])), (o2, .inl (cI, 4, .inl fo2)), (q2, .inl (cI, 28, .inl (sh fl2)))]) [3, 4, 5] rfl
  have hDc : va_D (fun q : Nat => L0 ≤ q) [(h2, .inr (1, [.ref o2, .ref q2, .int pl2])), (o2, .inl (cI, 4, .inl fo2)), (q2, .inl (cI, 28, .inl (sh fl2)))] := (hD.sub (ws' := [(h2, .inr (1, [.ref o2, .ref q2, .int pl2])), (o2, .inl (cI, 4, .inl fo2)), (q2, .inl (cI, 28, .inl (sh fl2)))]) [3, 4, 5] (by decide) rfl).weaken (fun _ z9 _ h9 => hAL _ h9)
  have hKc := hK.sub (tys' := [(cI, .int)]) [0] rfl
  refine c_callR (va_runV (As := [.int (nI 3)]) (rest := [.int 3, .ref h]) ⟨hx, hb, hml, hown, hts⟩ (k_drawn l D L0 cI h2 o2 q2 pl2 fo2 (sh fl2) 3 (by decide)) (cwV 1 hts gX1_becomeLike_X1_drawn rfl rfl rfl (by decide +kernel) ⟨Nat.le_of_ble_eq_true rfl, Nat.le_of_ble_eq_true rfl⟩) ⟨cP_blind, va_recv hKc hPc (ci := 1) (q0 := 0) rfl rfl, cP_of hPc hKc hDc (kE_at hE0 hAL hS)⟩ rfl rfl hl.1 rfl (lv_room (Nat.le_of_ble_eq_true rfl)) dX1_becomeLike_19 ⟨Nat.le_of_ble_eq_true rfl, Nat.le_of_ble_eq_true rfl⟩) ?_
  show W _ _ _ _ _ _ _ _ _ _ _ _ _ _ _ (F0 m 22 ls [.int (fo2 3), .int 3, .ref h])
  have hPc := hP.sub (ws' := [(h, .inr (1, [.ref o, .ref q, .int pl2])), (o, .inl (cI, 4, .inl (upd (upd (upd fo 0 (fo2 0)) 1 (fo2 1)) 2 (fo2 2)))), (q, .inl (cI, 28, .inl fl))]) [0, 1, 2] rfl
  have hDc : va_D (fun q : Nat => L0 ≤ q) [(h, .inr (1, [.ref o, .ref q, .int pl2])), (o, .inl (cI, 4, .inl (upd (upd (upd fo 0 (fo2 0)) 1 (fo2 1)) 2 (fo2 2)))), (q, .inl (cI, 28, .inl fl))] := (hD.sub (ws' := [(h, .inr (1, [.ref o, .ref q, .int pl2])), (o, .inl (cI, 4, .inl (upd (upd (upd fo 0 (fo2 0)) 1 (fo2 1)) 2 (fo2 2)))), (q, .inl (cI, 28, .inl fl))]) [0, 1, 2] (by decide) rfl).weaken (fun _ z9 _ h9 => hAL _ h9)
  have hKc := hK.sub (tys' := [(cI, .int)]) [0] rfl
  refine c_callB (va_runV (As := [.int (nI 3), .int (fo2 3)]) (rest := []) ⟨hx, hb, hml, hown, hts⟩ (k_draw l D L0 cI h o q pl2 (upd (upd (upd fo 0 (fo2 0)) 1 (fo2 1)) 2 (fo2 2)) fl 3 (fo2 3) (by decide)) (cwV 2 hts gX1_becomeLike_X1_draw rfl rfl rfl (by decide +kernel) ⟨Nat.le_of_ble_eq_true rfl, Nat.le_of_ble_eq_true rfl⟩) ⟨cP_blind, va_recv hKc hPc (ci := 1) (q0 := 0) rfl rfl, cP_of hPc hKc hDc (kE_at hE0 hAL hS)⟩ rfl rfl hl.1 rfl (lv_room (Nat.le_of_ble_eq_true rfl)) dX1_becomeLike_22 ⟨Nat.le_of_ble_eq_true rfl, Nat.le_of_ble_eq_true rfl⟩) hS (fun z9 _ ⟨k9, e9, h9⟩ => (hD.sub (ws' := [(h, .inr (1, [.ref o, .ref q, .int pl2])), (o, .inl (cI, 4, .inl (upd (upd (upd fo 0 (fo2 0)) 1 (fo2 1)) 2 (fo2 2)))), (q, .inl (cI, 28, .inl fl))]) [0, 1, 2] (by decide) rfl).2 k9 (z9, e9) h9) (fun z9 ⟨k9, e9, h9⟩ => (hD.sub (ws' := [(h, .inr (1, [.ref o, .ref q, .int pl2])), (o, .inl (cI, 4, .inl (upd (upd (upd fo 0 (fo2 0)) 1 (fo2 1)) 2 (fo2 2)))), (q, .inl (cI, 28, .inl fl))]) [0, 1, 2] (by decide) rfl).2 k9 (z9, e9) h9) (fun H1 locs hB hz1 hk1 hS => ?_)
  obtain ⟨hP, hD⟩ := c_join (ws' := [(h, .inr (1, [.ref o, .ref q, .int pl2])), (o, .inl (cI, 4, .inl (upd (upd (upd (upd fo 0 (fo2 0)) 1 (fo2 1)) 2 (fo2 2)) 3 (fo2 3)))), (q, .inl (cI, 28, .inl fl)), (h2, .inr (1, [.ref o2, .ref q2, .int pl2])), (o2, .inl (cI, 4, .inl fo2)), (q2, .inl (cI, 28, .inl (sh fl2)))]) (wr := [(h2, .inr (1, [.ref o2, .ref q2, .int pl2])), (o2, .inl (cI, 4, .inl fo2)), (q2, .inl (cI, 28, .inl (sh fl2)))]) (w1 := [(h, .inr (1, [.ref o, .ref q, .int pl2])), (o, .inl (cI, 4, .inl (upd (upd (upd (upd fo 0 (fo2 0)) 1 (fo2 1)) 2 (fo2 2)) 3 (fo2 3)))), (q, .inl (cI, 28, .inl fl))]) hP hD [0, 1, 2] [3, 4, 5] [3, 4, 5, 0, 1, 2] rfl rfl (by decide) (by decide) hk1 hB rfl rfl rfl (by decide)
  generalize H1 = H at hP hS ⊢
  show W _ _ _ _ _ _ _ _ _ _ _ _ _ _ _ (F0 m 25 ls [])
  refine lv_iinc (v := 4) (lv' := [(2, .int 4), (0, .ref h), (1, .ref h2)]) hx hb dX1_becomeLike_25 hl (k := 0) rfl (by decide) (by decide) rfl (fun ls hl => ?_)
  refine lv_goto (tgt := 10) hx hb dX1_becomeLike_28 (by decide) ?_
  refine lv_iload_n hx hb dX1_becomeLike_10 rfl (lv_at hl 0 rfl) ?_
  refine lv_iconst (v := 4) hx hb dX1_becomeLike_11 (by decide) ?_
  refine lv_icmp_ge (tgt := 31) hx hb dX1_becomeLike_12 (by decide) (fun _ => ?_) (fun c_10 => absurd (by decide) c_10)
  have hP : va_P D vwCl [(h, .inr (1, [.ref o, .ref q, .int pl2])), (o, .inl (cI, 4, .inl fo2)), (q, .inl (cI, 28, .inl fl)), (h2, .inr (1, [.ref o2, .ref q2, .int pl2])), (o2, .inl (cI, 4, .inl fo2)), (q2, .inl (cI, 28, .inl (sh fl2)))] H := by
    intro k z hz
    match k, hz with
    | 0, hz => exact hP 0 z hz
    | 1, hz => cases hz; exact arr_same (hP 1 _ rfl) (fun j hj => by rcases (show j = 0 ∨ j = 1 ∨ j = 2 ∨ j = 3 by omega) with rfl | rfl | rfl | rfl <;> rfl)
    | 2, hz => exact hP 2 z hz
    | 3, hz => exact hP 3 z hz
    | 4, hz => exact hP 4 z hz
    | 5, hz => exact hP 5 z hz
    | k + 6, hz => cases hz
  have hD : va_D A [(h, .inr (1, [.ref o, .ref q, .int pl2])), (o, .inl (cI, 4, .inl fo2)), (q, .inl (cI, 28, .inl fl)), (h2, .inr (1, [.ref o2, .ref q2, .int pl2])), (o2, .inl (cI, 4, .inl fo2)), (q2, .inl (cI, 28, .inl (sh fl2)))] := c_Dsame hD rfl
  refine lv_iconst (v := 3) hx hb dX1_becomeLike_31 (by decide) ?_
  refine lv_istore_n (lv' := [(2, .int 3), (0, .ref h), (1, .ref h2)]) hx hb dX1_becomeLike_32 rfl hl (by decide) rfl (fun ls hl => ?_)
  have hl : lv_has ls 3 [(2, .int (nI 3)), (0, .ref h), (1, .ref h2)] := (show 3 = nI 3 from rfl) ▸ hl
  exact loop2 29 3 fl _ _ _ (by omega) (by omega) (fun j hj => absurd hj (by omega)) (lv_sub hl [0, 1, 2] rfl) hP hD hS
