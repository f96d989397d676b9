set_option maxHeartbeats 4000000 in
set_option maxRecDepth 100000 in
/-- meanLoad(), a number -/
theorem k_mean (l : Launch) (D : va_G) (L0 : Nat) (x rg tr pn d r : Nat) (ld li tl mo : Int32) : Met l yX2_meanLoad wsX2_meanLoad ({ frames := 0, cells := 0, slots := 0, locals := 0 }) (cP L0 D [] [(x, .inr (2, [.ref rg, .ref tr, .ref pn, .int (nI d), .int (nI r), .int ld, .int li, .int tl, .int mo]))] [.ref x]) (cR (some (.double (mnS li tl)))) 0 0 (fun _ => False) := by
  refine Met.ofW (cc := cX2_meanLoad) (maxL := 1) (ret := (some .double)) (by decide) rfl ?_
  intro p e s m args below meth c s₁ B hml hv
  obtain ⟨rfl, hP, hK, hD0, hE0⟩ := hv
  have hx := B.exec
  have hb := B.bytes
  have hRt := B.returns
  have hts := atoms_spec (ws := wsX2_meanLoad) B.pre
  have hown : s.vm.findClass RX2 = some m.cls := findClass_of_methodNamed B.named
  have hlocks := B.notSynchronized
  have hAL : ∀ z9 : Nat, (fun _ : Nat => False) z9 → L0 ≤ z9 := fun z9 h9 => False.elim h9
  generalize hAe : (fun _ : Nat => False) = A at hAL ⊢
  have hS : va_S A s.heap s.heap [] := va_S.rf
  have hiX2 : ∀ w ∈ u_ws RX2 TX2 9, w ∈ wsX2_meanLoad := by decide +kernel
  have hl := lv_entry ([.ref x]) (n := 1) (Nat.le_of_ble_eq_true rfl)
  rw [lg_entry_eq]
  generalize (lg_sl ([.ref x]) ++ List.replicate (1 - (lg_sl ([.ref x])).length) Slot.unset).toArray = ls at hl ⊢
  have hl : lv_has ls 1 [(0, .ref x)] := hl
  refine lv_aload_n hx hb dX2_meanLoad_0 rfl (lv_at hl 0 rfl) ?_
  refine va_get (D := D) (ci := 2) (v := .int li) (C := RX2) (T := TX2) (N := 9) hx hb hts hiX2 hown hK hP 0 rfl rfl 6 (by decide) (hts (.fieldLink RX2 85 "CraneReach" "lifts" "I") (by decide +kernel)) (fun _ h9 => h9) rfl dX2_meanLoad_1 ?_
  refine lv_if_ne (tgt := 11) hx hb dX2_meanLoad_4 (by decide) (fun c_16 => ?_) (fun c_16 => ?_)
  · refine lv_aload_n hx hb dX2_meanLoad_11 rfl (lv_at hl 0 rfl) ?_
    refine va_get (D := D) (ci := 2) (v := .int tl) (C := RX2) (T := TX2) (N := 9) hx hb hts hiX2 hown hK hP 0 rfl rfl 7 (by decide) (hts (.fieldLink RX2 88 "CraneReach" "tonsLifted" "I") (by decide +kernel)) (fun _ h9 => h9) rfl dX2_meanLoad_12 ?_
    refine lv_i2d hx hb dX2_meanLoad_15 ?_
    refine lv_aload_n hx hb dX2_meanLoad_16 rfl (lv_at hl 0 rfl) ?_
    refine va_get (D := D) (ci := 2) (v := .int li) (C := RX2) (T := TX2) (N := 9) hx hb hts hiX2 hown hK hP 0 rfl rfl 6 (by decide) (hts (.fieldLink RX2 85 "CraneReach" "lifts" "I") (by decide +kernel)) (fun _ h9 => h9) rfl dX2_meanLoad_17 ?_
    refine lv_i2d hx hb dX2_meanLoad_20 ?_
    refine lv_ddiv hx hb dX2_meanLoad_21 (fl_n64 (fl_div c_16)) ?_
    exact W.dret hx hb hRt (fun t ht hW => ⟨by rw [mnS, if_neg c_16], ht⟩) hS.2.2 dX2_meanLoad_22
  · refine lv_dconst0 hx hb dX2_meanLoad_7 ?_
    refine lv_goto (tgt := 22) hx hb dX2_meanLoad_8 (by decide) ?_
    exact W.dret hx hb hRt (fun t ht hW => ⟨by rw [mnS, if_pos c_16], ht⟩) hS.2.2 dX2_meanLoad_22
theorem wdN_keep {st : Nat → Int32} {n w : Nat} (hn : n + 1 ≤ 4) (hw : w = wdN st (4 - (n + 1))) (c : st n < st w) : w = wdN st (4 - n) := by
  have hj : 4 - n = (4 - (n + 1)) + 1 := by omega
  have h3 : 3 - (4 - (n + 1)) = n := by omega
  rw [hj, wdN, h3, ← hw, if_pos c]
theorem wdN_take {st : Nat → Int32} {n w : Nat} (hn : n + 1 ≤ 4) (hw : w = wdN st (4 - (n + 1))) (c : ¬ st n < st w) : n = wdN st (4 - n) := by
  have hj : 4 - n = (4 - (n + 1)) + 1 := by omega
  have h3 : 3 - (4 - (n + 1)) = n := by omega
  have e : wdN st (4 - (n + 1) + 1) = n := by rw [wdN, h3, ← hw, if_neg c]
  rw [hj, e]
