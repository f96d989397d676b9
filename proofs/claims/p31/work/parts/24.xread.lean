set_option maxHeartbeats 4000000 in
set_option maxRecDepth 100000 in
/-- direction() -/
theorem k_direction (l : Launch) (D : va_G) (L0 : Nat) (x rg tr pn d r : Nat) (ld li tl mo : Int32) : Met l yX2_direction wsX2_direction ({ frames := 0, cells := 0, slots := 0, locals := 0 }) (cP L0 D [] [(x, .inr (2, [.ref rg, .ref tr, .ref pn, .int (nI d), .int (nI r), .int ld, .int li, .int tl, .int mo]))] [.ref x]) (cR (some (.int (nI d)))) 0 0 (fun _ => False) := by
  refine Met.ofW (cc := cX2_direction) (maxL := 1) (ret := (some .int)) (by decide) rfl ?_
  intro p e s m args below meth c s₁ B hml hv
  obtain ⟨rfl, hP, hK, hD0, hE0⟩ := hv
  have hx := B.exec
  have hb := B.bytes
  have hRt := B.returns
  have hts := atoms_spec (ws := wsX2_direction) B.pre
  have hown : s.vm.findClass RX2 = some m.cls := findClass_of_methodNamed B.named
  have hlocks := B.notSynchronized
  have hAL : ∀ z9 : Nat, (fun _ : Nat => False) z9 → L0 ≤ z9 := fun z9 h9 => False.elim h9
  generalize hAe : (fun _ : Nat => False) = A at hAL ⊢
  have hS : va_S A s.heap s.heap [] := va_S.rf
  have hiX2 : ∀ w ∈ u_ws RX2 TX2 9, w ∈ wsX2_direction := by decide +kernel
  have hl := lv_entry ([.ref x]) (n := 1) (Nat.le_of_ble_eq_true rfl)
  rw [lg_entry_eq]
  generalize (lg_sl ([.ref x]) ++ List.replicate (1 - (lg_sl ([.ref x])).length) Slot.unset).toArray = ls at hl ⊢
  have hl : lv_has ls 1 [(0, .ref x)] := hl
  refine lv_aload_n hx hb dX2_direction_0 rfl (lv_at hl 0 rfl) ?_
  refine va_get (D := D) (ci := 2) (v := .int (nI d)) (C := RX2) (T := TX2) (N := 9) hx hb hts hiX2 hown hK hP 0 rfl rfl 3 (by decide) (hts (.fieldLink RX2 98 "CraneReach" "direction" "I") (by decide +kernel)) (fun _ h9 => h9) rfl dX2_direction_1 ?_
  exact W.iret (v := (nI d)) hx hb hRt (fun t ht hW => ⟨rfl, ht⟩) hS.2.2 dX2_direction_4
set_option maxHeartbeats 4000000 in
set_option maxRecDepth 100000 in
/-- reach() -/
theorem k_reach (l : Launch) (D : va_G) (L0 : Nat) (x rg tr pn d r : Nat) (ld li tl mo : Int32) : Met l yX2_reach wsX2_reach ({ frames := 0, cells := 0, slots := 0, locals := 0 }) (cP L0 D [] [(x, .inr (2, [.ref rg, .ref tr, .ref pn, .int (nI d), .int (nI r), .int ld, .int li, .int tl, .int mo]))] [.ref x]) (cR (some (.int (nI r)))) 0 0 (fun _ => False) := by
  refine Met.ofW (cc := cX2_reach) (maxL := 1) (ret := (some .int)) (by decide) rfl ?_
  intro p e s m args below meth c s₁ B hml hv
  obtain ⟨rfl, hP, hK, hD0, hE0⟩ := hv
  have hx := B.exec
  have hb := B.bytes
  have hRt := B.returns
  have hts := atoms_spec (ws := wsX2_reach) B.pre
  have hown : s.vm.findClass RX2 = some m.cls := findClass_of_methodNamed B.named
  have hlocks := B.notSynchronized
  have hAL : ∀ z9 : Nat, (fun _ : Nat => False) z9 → L0 ≤ z9 := fun z9 h9 => False.elim h9
  generalize hAe : (fun _ : Nat => False) = A at hAL ⊢
  have hS : va_S A s.heap s.heap [] := va_S.rf
  have hiX2 : ∀ w ∈ u_ws RX2 TX2 9, w ∈ wsX2_reach := by decide +kernel
  have hl := lv_entry ([.ref x]) (n := 1) (Nat.le_of_ble_eq_true rfl)
  rw [lg_entry_eq]
  generalize (lg_sl ([.ref x]) ++ List.replicate (1 - (lg_sl ([.ref x])).length) Slot.unset).toArray = ls at hl ⊢
  have hl : lv_has ls 1 [(0, .ref x)] := hl
  refine lv_aload_n hx hb dX2_reach_0 rfl (lv_at hl 0 rfl) ?_
  refine va_get (D := D) (ci := 2) (v := .int (nI r)) (C := RX2) (T := TX2) (N := 9) hx hb hts hiX2 hown hK hP 0 rfl rfl 4 (by decide) (hts (.fieldLink RX2 26 "CraneReach" "reach" "I") (by decide +kernel)) (fun _ h9 => h9) rfl dX2_reach_1 ?_
  exact W.iret (v := (nI r)) hx hb hRt (fun t ht hW => ⟨rfl, ht⟩) hS.2.2 dX2_reach_4
set_option maxHeartbeats 4000000 in
set_option maxRecDepth 100000 in
/-- load() -/
theorem k_load (l : Launch) (D : va_G) (L0 : Nat) (x rg tr pn d r : Nat) (ld li tl mo : Int32) : Met l yX2_load wsX2_load ({ frames := 0, cells := 0, slots := 0, locals := 0 }) (cP L0 D [] [(x, .inr (2, [.ref rg, .ref tr, .ref pn, .int (nI d), .int (nI r), .int ld, .int li, .int tl, .int mo]))] [.ref x]) (cR (some (.int ld))) 0 0 (fun _ => False) := by
  refine Met.ofW (cc := cX2_load) (maxL := 1) (ret := (some .int)) (by decide) rfl ?_
  intro p e s m args below meth c s₁ B hml hv
  obtain ⟨rfl, hP, hK, hD0, hE0⟩ := hv
  have hx := B.exec
  have hb := B.bytes
  have hRt := B.returns
  have hts := atoms_spec (ws := wsX2_load) B.pre
  have hown : s.vm.findClass RX2 = some m.cls := findClass_of_methodNamed B.named
  have hlocks := B.notSynchronized
  have hAL : ∀ z9 : Nat, (fun _ : Nat => False) z9 → L0 ≤ z9 := fun z9 h9 => False.elim h9
  generalize hAe : (fun _ : Nat => False) = A at hAL ⊢
  have hS : va_S A s.heap s.heap [] := va_S.rf
  have hiX2 : ∀ w ∈ u_ws RX2 TX2 9, w ∈ wsX2_load := by decide +kernel
  have hl := lv_entry ([.ref x]) (n := 1) (Nat.le_of_ble_eq_true rfl)
  rw [lg_entry_eq]
  generalize (lg_sl ([.ref x]) ++ List.replicate (1 - (lg_sl ([.ref x])).length) Slot.unset).toArray = ls at hl ⊢
  have hl : lv_has ls 1 [(0, .ref x)] := hl
  refine lv_aload_n hx hb dX2_load_0 rfl (lv_at hl 0 rfl) ?_
  refine va_get (D := D) (ci := 2) (v := .int ld) (C := RX2) (T := TX2) (N := 9) hx hb hts hiX2 hown hK hP 0 rfl rfl 5 (by decide) (hts (.fieldLink RX2 48 "CraneReach" "load" "I") (by decide +kernel)) (fun _ h9 => h9) rfl dX2_load_1 ?_
  exact W.iret (v := ld) hx hb hRt (fun t ht hW => ⟨rfl, ht⟩) hS.2.2 dX2_load_4
set_option maxHeartbeats 4000000 in
set_option maxRecDepth 100000 in
/-- lifts() -/
theorem k_lifts (l : Launch) (D : va_G) (L0 : Nat) (x rg tr pn d r : Nat) (ld li tl mo : Int32) : Met l yX2_lifts wsX2_lifts ({ frames := 0, cells := 0, slots := 0, locals := 0 }) (cP L0 D [] [(x, .inr (2, [.ref rg, .ref tr, .ref pn, .int (nI d), .int (nI r), .int ld, .int li, .int tl, .int mo]))] [.ref x]) (cR (some (.int li))) 0 0 (fun _ => False) := by
  refine Met.ofW (cc := cX2_lifts) (maxL := 1) (ret := (some .int)) (by decide) rfl ?_
  intro p e s m args below meth c s₁ B hml hv
  obtain ⟨rfl, hP, hK, hD0, hE0⟩ := hv
  have hx := B.exec
  have hb := B.bytes
  have hRt := B.returns
  have hts := atoms_spec (ws := wsX2_lifts) B.pre
  have hown : s.vm.findClass RX2 = some m.cls := findClass_of_methodNamed B.named
  have hlocks := B.notSynchronized
  have hAL : ∀ z9 : Nat, (fun _ : Nat => False) z9 → L0 ≤ z9 := fun z9 h9 => False.elim h9
  generalize hAe : (fun _ : Nat => False) = A at hAL ⊢
  have hS : va_S A s.heap s.heap [] := va_S.rf
  have hiX2 : ∀ w ∈ u_ws RX2 TX2 9, w ∈ wsX2_lifts := by decide +kernel
  have hl := lv_entry ([.ref x]) (n := 1) (Nat.le_of_ble_eq_true rfl)
  rw [lg_entry_eq]
  generalize (lg_sl ([.ref x]) ++ List.replicate (1 - (lg_sl ([.ref x])).length) Slot.unset).toArray = ls at hl ⊢
  have hl : lv_has ls 1 [(0, .ref x)] := hl
  refine lv_aload_n hx hb dX2_lifts_0 rfl (lv_at hl 0 rfl) ?_
  refine va_get (D := D) (ci := 2) (v := .int li) (C := RX2) (T := TX2) (N := 9) hx hb hts hiX2 hown hK hP 0 rfl rfl 6 (by decide) (hts (.fieldLink RX2 85 "CraneReach" "lifts" "I") (by decide +kernel)) (fun _ h9 => h9) rfl dX2_lifts_1 ?_
  exact W.iret (v := li) hx hb hRt (fun t ht hW => ⟨rfl, ht⟩) hS.2.2 dX2_lifts_4
set_option maxHeartbeats 4000000 in
set_option maxRecDepth 100000 in
/-- tonsLifted() -/
theorem k_tonsLifted (l : Launch) (D : va_G) (L0 : Nat) (x rg tr pn d r : Nat) (ld li tl mo : Int32) : Met l yX2_tonsLifted wsX2_tonsLifted ({ frames := 0, cells := 0, slots := 0, locals := 0 }) (cP L0 D [] [(x, .inr (2, [.ref rg, .ref tr, .ref pn, .int (nI d), .int (nI r), .int ld, .int li, .int tl, .int mo]))] [.ref x]) (cR (some (.int tl))) 0 0 (fun _ => False) := by
  refine Met.ofW (cc := cX2_tonsLifted) (maxL := 1) (ret := (some .int)) (by decide) rfl ?_
  intro p e s m args below meth c s₁ B hml hv
  obtain ⟨rfl, hP, hK, hD0, hE0⟩ := hv
  have hx := B.exec
  have hb := B.bytes
  have hRt := B.returns
  have hts := atoms_spec (ws := wsX2_tonsLifted) B.pre
  have hown : s.vm.findClass RX2 = some m.cls := findClass_of_methodNamed B.named
  have hlocks := B.notSynchronized
  have hAL : ∀ z9 : Nat, (fun _ : Nat => False) z9 → L0 ≤ z9 := fun z9 h9 => False.elim h9
  generalize hAe : (fun _ : Nat => False) = A at hAL ⊢
  have hS : va_S A s.heap s.heap [] := va_S.rf
  have hiX2 : ∀ w ∈ u_ws RX2 TX2 9, w ∈ wsX2_tonsLifted := by decide +kernel
  have hl := lv_entry ([.ref x]) (n := 1) (Nat.le_of_ble_eq_true rfl)
  rw [lg_entry_eq]
  generalize (lg_sl ([.ref x]) ++ List.replicate (1 - (lg_sl ([.ref x])).length) Slot.unset).toArray = ls at hl ⊢
  have hl : lv_has ls 1 [(0, .ref x)] := hl
  refine lv_aload_n hx hb dX2_tonsLifted_0 rfl (lv_at hl 0 rfl) ?_
  refine va_get (D := D) (ci := 2) (v := .int tl) (C := RX2) (T := TX2) (N := 9) hx hb hts hiX2 hown hK hP 0 rfl rfl 7 (by decide) (hts (.fieldLink RX2 88 "CraneReach" "tonsLifted" "I") (by decide +kernel)) (fun _ h9 => h9) rfl dX2_tonsLifted_1 ?_
  exact W.iret (v := tl) hx hb hRt (fun t ht hW => ⟨rfl, ht⟩) hS.2.2 dX2_tonsLifted_4
set_option maxHeartbeats 4000000 in
set_option maxRecDepth 100000 in
/-- movesWithLoad() -/
theorem k_movesWithLoad (l : Launch) (D : va_G) (L0 : Nat) (x rg tr pn d r : Nat) (ld li tl mo : Int32) : Met l yX2_movesWithLoad wsX2_movesWithLoad ({ frames := 0, cells := 0, slots := 0, locals := 0 }) (cP L0 D [] [(x, .inr (2, [.ref rg, .ref tr, .ref pn, .int (nI d), .int (nI r), .int ld, .int li, .int tl, .int mo]))] [.ref x]) (cR (some (.int mo))) 0 0 (fun _ => False) := by
  refine Met.ofW (cc := cX2_movesWithLoad) (maxL := 1) (ret := (some .int)) (by decide) rfl ?_
  intro p e s m args below meth c s₁ B hml hv
  obtain ⟨rfl, hP, hK, hD0, hE0⟩ := hv
  have hx := B.exec
  have hb := B.bytes
  have hRt := B.returns
  have hts := atoms_spec (ws := wsX2_movesWithLoad) B.pre
  have hown : s.vm.findClass RX2 = some m.cls := findClass_of_methodNamed B.named
  have hlocks := B.notSynchronized
  have hAL : ∀ z9 : Nat, (fun _ : Nat => False) z9 → L0 ≤ z9 := fun z9 h9 => False.elim h9
  generalize hAe : (fun _ : Nat => False) = A at hAL ⊢
  have hS : va_S A s.heap s.heap [] := va_S.rf
  have hiX2 : ∀ w ∈ u_ws RX2 TX2 9, w ∈ wsX2_movesWithLoad := by decide +kernel
  have hl := lv_entry ([.ref x]) (n := 1) (Nat.le_of_ble_eq_true rfl)
  rw [lg_entry_eq]
  generalize (lg_sl ([.ref x]) ++ List.replicate (1 - (lg_sl ([.ref x])).length) Slot.unset).toArray = ls at hl ⊢
  have hl : lv_has ls 1 [(0, .ref x)] := hl
  refine lv_aload_n hx hb dX2_movesWithLoad_0 rfl (lv_at hl 0 rfl) ?_
  refine va_get (D := D) (ci := 2) (v := .int mo) (C := RX2) (T := TX2) (N := 9) hx hb hts hiX2 hown hK hP 0 rfl rfl 8 (by decide) (hts (.fieldLink RX2 121 "CraneReach" "movesWithLoad" "I") (by decide +kernel)) (fun _ h9 => h9) rfl dX2_movesWithLoad_1 ?_
  exact W.iret (v := mo) hx hb hRt (fun t ht hW => ⟨rfl, ht⟩) hS.2.2 dX2_movesWithLoad_4
set_option maxHeartbeats 4000000 in
set_option maxRecDepth 100000 in
/-- plates() -/
theorem k_plates (l : Launch) (D : va_G) (L0 : Nat) (cI : ClassId) (x rg tr pn ro rl d r : Nat) (ld li tl mo pl : Int32) (fo fl : Nat → Int32) : Met l yX2_plates wsX2_plates ({ frames := 0, cells := 0, slots := 0, locals := 0 }) (cP L0 D [(cI, .int)] [(x, .inr (2, [.ref rg, .ref tr, .ref pn, .int (nI d), .int (nI r), .int ld, .int li, .int tl, .int mo])), (rg, .inr (1, [.ref ro, .ref rl, .int pl])), (ro, .inl (cI, 4, .inl fo)), (rl, .inl (cI, 28, .inl (sh fl)))] [.ref x]) (cR (some (.int pl))) 0 0 (fun _ => False) := by
  refine Met.ofW (cc := cX2_plates) (maxL := 1) (ret := (some .int)) (by decide) rfl ?_
  intro p e s m args below meth c s₁ B hml hv
  obtain ⟨rfl, hP, hK, hD0, hE0⟩ := hv
  have hx := B.exec
  have hb := B.bytes
  have hRt := B.returns
  have hts := atoms_spec (ws := wsX2_plates) B.pre
  have hown : s.vm.findClass RX2 = some m.cls := findClass_of_methodNamed B.named
  have hlocks := B.notSynchronized
  have hAL : ∀ z9 : Nat, (fun _ : Nat => False) z9 → L0 ≤ z9 := fun z9 h9 => False.elim h9
  generalize hAe : (fun _ : Nat => False) = A at hAL ⊢
  have hS : va_S A s.heap s.heap [] := va_S.rf
  have hiX2 : ∀ w ∈ u_ws RX2 TX2 9, w ∈ wsX2_plates := by decide +kernel
  have hiX1 : ∀ w ∈ u_ws RX1 TX1 3, w ∈ wsX2_plates := by decide +kernel
  have hl := lv_entry ([.ref x]) (n := 1) (Nat.le_of_ble_eq_true rfl)
  rw [lg_entry_eq]
  generalize (lg_sl ([.ref x]) ++ List.replicate (1 - (lg_sl ([.ref x])).length) Slot.unset).toArray = ls at hl ⊢
  have hl : lv_has ls 1 [(0, .ref x)] := hl
  refine lv_aload_n hx hb dX2_plates_0 rfl (lv_at hl 0 rfl) ?_
  refine va_get (D := D) (ci := 2) (v := .ref rg) (C := RX2) (T := TX2) (N := 9) hx hb hts hiX2 hown hK hP 0 rfl rfl 0 (by decide) (hts (.fieldLink RX2 12 "CraneReach" "rig" "LCraneReach$Rig;") (by decide +kernel)) (fun _ h9 => h9) rfl dX2_plates_1 ?_
  refine va_get (D := D) (ci := 1) (v := .int pl) (C := RX1) (T := TX1) (N := 3) hx hb hts hiX1 hown hK hP 1 rfl rfl 2 (by decide) (hts (.fieldLink RX2 45 "CraneReach$Rig" "plates" "I") (by decide +kernel)) (fun _ h9 => h9) rfl dX2_plates_4 ?_
  exact W.iret (v := pl) hx hb hRt (fun t ht hW => ⟨rfl, ht⟩) hS.2.2 dX2_plates_7
set_option maxHeartbeats 4000000 in
set_option maxRecDepth 100000 in
/-- returns, or throws where a load hangs -/
theorem k_requireNoLoad (l : Launch) (hfl : l.stackTraces = false) (D : va_G) (L0 : Nat) (x rg tr pn d r : Nat) (ld li tl mo : Int32) : vx_Met l yX2_requireNoLoad wsX2_requireNoLoad ({ frames := 6, cells := 1, slots := 6, locals := 86 }) (cP L0 D [] [(x, .inr (2, [.ref rg, .ref tr, .ref pn, .int (nI d), .int (nI r), .int ld, .int li, .int tl, .int mo]))] [.ref x]) (cRP none (¬ 0 < ld)) (cX (fun E => E = xISE ∧ ¬ ¬ 0 < ld) (fun _ => True) (fun _ => False)) 1 6 (fun _ => False) := by
  refine vx_ofW (cc := cX2_requireNoLoad) (maxL := 1) (ret := none) (by decide) rfl ?_
  intro p e s m args below meth c s₁ B hml hxt hv
  obtain ⟨rfl, hP, hK, hD0, hE0⟩ := hv
  have hx := B.exec
  have hb := B.bytes
  have hRt := B.returns
  have hts := atoms_spec (ws := wsX2_requireNoLoad) B.pre
  have hown : s.vm.findClass RX2 = some m.cls := findClass_of_methodNamed B.named
  have hlocks := B.notSynchronized
  have hAL : ∀ z9 : Nat, (fun _ : Nat => False) z9 → L0 ≤ z9 := fun z9 h9 => False.elim h9
  generalize hAe : (fun _ : Nat => False) = A at hAL ⊢
  have hS : va_S A s.heap s.heap [] := va_S.rf
  have hiX2 : ∀ w ∈ u_ws RX2 TX2 9, w ∈ wsX2_requireNoLoad := by decide +kernel
  have hl := lv_entry ([.ref x]) (n := 1) (Nat.le_of_ble_eq_true rfl)
  rw [lg_entry_eq]
  generalize (lg_sl ([.ref x]) ++ List.replicate (1 - (lg_sl ([.ref x])).length) Slot.unset).toArray = ls at hl ⊢
  have hl : lv_has ls 1 [(0, .ref x)] := hl
  have hin95 : ∀ z ∈ (vx_atS RX2 95 xISE kSup).filter goodWord, z ∈ wsX2_requireNoLoad := by decide +kernel
  refine lv_aload_n hx hb dX2_requireNoLoad_0 rfl (lv_at hl 0 rfl) ?_
  refine va_get (D := D) (ci := 2) (v := .int ld) (C := RX2) (T := TX2) (N := 9) hx hb hts hiX2 hown hK hP 0 rfl rfl 5 (by decide) (hts (.fieldLink RX2 48 "CraneReach" "load" "I") (by decide +kernel)) (fun _ h9 => h9) rfl dX2_requireNoLoad_1 ?_
  refine lv_if_le (tgt := 17) hx hb dX2_requireNoLoad_4 (by decide) (fun c_1 => ?_) (fun c_1 => ?_)
  · refine vx_ret ?_
    refine W.widen (k := 1) (n := 6) (Nat.le_of_ble_eq_true rfl) (Nat.le_of_ble_eq_true rfl) ?_
    exact W.vret hx hb hRt (fun t ht hW => ⟨⟨rfl, ht⟩, i_len c_1⟩) hS.2.2 dX2_requireNoLoad_17
  · exact c_throw (cls := xISE) (text := "a load hangs on the boom") hx hb hfl hown (Or.inr (Or.inl rfl)) (hts (.classLink RX2 91 xISE) (by decide +kernel)) (hts (.initialized xISE) (by decide +kernel)) hE0 hAL (by decide) (fun z hz => hts z (hin95 z hz)) (by decide +kernel) (by decide +kernel) hS hl.1 hml dX2_requireNoLoad_7 dX2_requireNoLoad_10 dX2_requireNoLoad_11 dX2_requireNoLoad_13 dX2_requireNoLoad_16 hxt (Nat.le_of_ble_eq_true rfl) (Nat.le_of_ble_eq_true rfl) (Nat.le_of_ble_eq_true rfl) (Nat.le_of_ble_eq_true rfl) hlocks (⟨rfl, fun z => z (i_nle c_1)⟩) (fun H1 _ _ => trivial) (fun q h => h) (fun q h => h) (Nat.le_of_ble_eq_true rfl) (Nat.le_of_ble_eq_true rfl)
set_option maxHeartbeats 4000000 in
set_option maxRecDepth 100000 in
/-- returns, or throws where it would not be safe -/
theorem k_requireSafe (l : Launch) (hfl : l.stackTraces = false) (D : va_G) (L0 : Nat) (cI : ClassId) (x rg tr pn tg ta tb d r : Nat) (ld li tl mo pl : Int32) (fo fl : Nat → Int32) (tons : Int32) (hd : d < 8) (hr : 3 ≤ r ∧ r ≤ 30) : vx_Met l yX2_requireSafe wsX2_requireSafe ({ frames := 6, cells := 1, slots := 6, locals := 86 }) (cP L0 D [(cI, .int)] [(x, .inr (2, [.ref rg, .ref tr, .ref pn, .int (nI d), .int (nI r), .int ld, .int li, .int tl, .int mo])), (tg, .inr (1, [.ref ta, .ref tb, .int pl])), (ta, .inl (cI, 4, .inl fo)), (tb, .inl (cI, 28, .inl (sh fl)))] [.ref x, .ref tg, .int tons]) (cRP none (safS fo fl pl tons d r = true)) (cX (fun E => E = xISE ∧ ¬ safS fo fl pl tons d r = true) (fun _ => True) (fun _ => False)) 1 6 (fun _ => False) := by
  refine vx_ofW (cc := cX2_requireSafe) (maxL := 3) (ret := none) (by decide) rfl ?_
  intro p e s m args below meth c s₁ B hml hxt hv
  obtain ⟨rfl, hP, hK, hD0, hE0⟩ := hv
  have hx := B.exec
  have hb := B.bytes
  have hRt := B.returns
  have hts := atoms_spec (ws := wsX2_requireSafe) B.pre
  have hown : s.vm.findClass RX2 = some m.cls := findClass_of_methodNamed B.named
  have hlocks := B.notSynchronized
  have hAL : ∀ z9 : Nat, (fun _ : Nat => False) z9 → L0 ≤ z9 := fun z9 h9 => False.elim h9
  generalize hAe : (fun _ : Nat => False) = A at hAL ⊢
  have hS : va_S A s.heap s.heap [] := va_S.rf
  have hiX2 : ∀ w ∈ u_ws RX2 TX2 9, w ∈ wsX2_requireSafe := by decide +kernel
  have hl := lv_entry ([.ref x, .ref tg, .int tons]) (n := 3) (Nat.le_of_ble_eq_true rfl)
  rw [lg_entry_eq]
  generalize (lg_sl ([.ref x, .ref tg, .int tons]) ++ List.replicate (3 - (lg_sl ([.ref x, .ref tg, .int tons])).length) Slot.unset).toArray = ls at hl ⊢
  have hl : lv_has ls 3 [(0, .ref x), (1, .ref tg), (2, .int tons)] := hl
  have hin95 : ∀ z ∈ (vx_atS RX2 95 xISE kSup).filter goodWord, z ∈ wsX2_requireSafe := by decide +kernel
  refine lv_aload_n hx hb dX2_requireSafe_0 rfl (lv_at hl 1 rfl) ?_
  refine lv_iload_n hx hb dX2_requireSafe_1 rfl (lv_at hl 2 rfl) ?_
  refine lv_aload_n hx hb dX2_requireSafe_2 rfl (lv_at hl 0 rfl) ?_
  refine va_get (D := D) (ci := 2) (v := .int (nI d)) (C := RX2) (T := TX2) (N := 9) hx hb hts hiX2 hown hK hP 0 rfl rfl 3 (by decide) (hts (.fieldLink RX2 98 "CraneReach" "direction" "I") (by decide +kernel)) (fun _ h9 => h9) rfl dX2_requireSafe_3 ?_
  refine lv_aload_n hx hb dX2_requireSafe_6 rfl (lv_at hl 0 rfl) ?_
  refine va_get (D := D) (ci := 2) (v := .int (nI r)) (C := RX2) (T := TX2) (N := 9) hx hb hts hiX2 hown hK hP 0 rfl rfl 4 (by decide) (hts (.fieldLink RX2 26 "CraneReach" "reach" "I") (by decide +kernel)) (fun _ h9 => h9) rfl dX2_requireSafe_7 ?_
  have hPc := hP.sub (ws' := [(tg, .inr (1, [.ref ta, .ref tb, .int pl])), (ta, .inl (cI, 4, .inl fo)), (tb, .inl (cI, 28, .inl (sh fl)))]) [1, 2, 3] rfl
  have hDc := hD0.sub (ws' := [(tg, .inr (1, [.ref ta, .ref tb, .int pl])), (ta, .inl (cI, 4, .inl fo)), (tb, .inl (cI, 28, .inl (sh fl)))]) [1, 2, 3] (by decide) rfl
  have hKc := hK.sub (tys' := [(cI, .int)]) [0] rfl
  refine c_callR (va_runV (As := [.int tons, .int (nI d), .int (nI r)]) (rest := []) ⟨hx, hb, hml, hown, hts⟩ (k_isSafe l D L0 cI tg ta tb pl fo fl d r tons hd hr) (cwV 3 hts gX2_requireSafe_X1_isSafe rfl rfl rfl (by decide +kernel) ⟨Nat.le_of_ble_eq_true rfl, Nat.le_of_ble_eq_true rfl⟩) ⟨cP_blind, va_recv hKc hPc (ci := 1) (q0 := 0) rfl rfl, cP_of hPc hKc hDc (kE_at hE0 hAL hS)⟩ rfl rfl hl.1 rfl (lv_room (Nat.le_of_ble_eq_true rfl)) dX2_requireSafe_10 ⟨Nat.le_of_ble_eq_true rfl, Nat.le_of_ble_eq_true rfl⟩) ?_
  show W _ _ _ _ _ _ _ _ _ _ _ _ _ _ _ (F0 m 13 ls [.int (bI (safS fo fl pl tons d r))])
  obtain ⟨b0, hb0⟩ : ∃ b0 : Bool, b0 = safS fo fl pl tons d r := ⟨_, rfl⟩
  refine c_top (show bI (safS fo fl pl tons d r) = bI b0 from by rw [hb0]) ?_
  refine lv_if_ne (tgt := 26) hx hb dX2_requireSafe_13 (by decide) (fun c_2 => ?_) (fun c_2 => ?_)
  · refine vx_ret ?_
    refine W.widen (k := 1) (n := 6) (Nat.le_of_ble_eq_true rfl) (Nat.le_of_ble_eq_true rfl) ?_
    exact W.vret hx hb hRt (fun t ht hW => ⟨⟨rfl, ht⟩, by rw [← hb0]; cases b0 with | true => rfl | false => exact absurd rfl c_2⟩) hS.2.2 dX2_requireSafe_26
  · exact c_throw (cls := xISE) (text := "it would not be safe then") hx hb hfl hown (Or.inr (Or.inl rfl)) (hts (.classLink RX2 91 xISE) (by decide +kernel)) (hts (.initialized xISE) (by decide +kernel)) hE0 hAL (by decide) (fun z hz => hts z (hin95 z hz)) (by decide +kernel) (by decide +kernel) hS hl.1 hml dX2_requireSafe_16 dX2_requireSafe_19 dX2_requireSafe_20 dX2_requireSafe_22 dX2_requireSafe_25 hxt (Nat.le_of_ble_eq_true rfl) (Nat.le_of_ble_eq_true rfl) (Nat.le_of_ble_eq_true rfl) (Nat.le_of_ble_eq_true rfl) hlocks (⟨rfl, fun z => absurd c_2 (by rw [hb0, z]; decide)⟩) (fun H1 _ _ => trivial) (fun q h => h) (fun q h => h) (Nat.le_of_ble_eq_true rfl) (Nat.le_of_ble_eq_true rfl)
set_option maxHeartbeats 4000000 in
set_option maxRecDepth 100000 in
/-- countMoves(moved) -/
theorem k_countMoves (l : Launch) (D : va_G) (L0 : Nat) (x rg tr pn d r : Nat) (ld li tl mo : Int32) (v : Int32) : Met l yX2_countMoves wsX2_countMoves ({ frames := 0, cells := 0, slots := 0, locals := 0 }) (cP L0 D [] [(x, .inr (2, [.ref rg, .ref tr, .ref pn, .int (nI d), .int (nI r), .int ld, .int li, .int tl, .int mo]))] [.ref x, .int v]) (cB none (fun H => va_P D vwCl [(x, .inr (2, [.ref rg, .ref tr, .ref pn, .int (nI d), .int (nI r), .int ld, .int li, .int tl, .int (if 0 < ld then mo + v else mo)]))] H) (cA [(x, .inr (2, [.ref rg, .ref tr, .ref pn, .int (nI d), .int (nI r), .int ld, .int li, .int tl, .int mo]))])) 0 0 (cA [(x, .inr (2, [.ref rg, .ref tr, .ref pn, .int (nI d), .int (nI r), .int ld, .int li, .int tl, .int mo]))]) := by
  refine Met.ofW (cc := cX2_countMoves) (maxL := 2) (ret := none) (by decide) rfl ?_
  intro p e s m args below meth c s₁ B hml hv
  obtain ⟨rfl, hP, hK, hD0, hE0⟩ := hv
  have hx := B.exec
  have hb := B.bytes
  have hRt := B.returns
  have hts := atoms_spec (ws := wsX2_countMoves) B.pre
  have hown : s.vm.findClass RX2 = some m.cls := findClass_of_methodNamed B.named
  have hlocks := B.notSynchronized
  have hAL : ∀ z9 : Nat, cA [(x, .inr (2, [.ref rg, .ref tr, .ref pn, .int (nI d), .int (nI r), .int ld, .int li, .int tl, .int mo]))] z9 → L0 ≤ z9 := fun z9 ⟨k9, e9, h9⟩ => hD0.2 k9 (z9, e9) h9
  have hD : va_D (cA [(x, .inr (2, [.ref rg, .ref tr, .ref pn, .int (nI d), .int (nI r), .int ld, .int li, .int tl, .int mo]))]) [(x, .inr (2, [.ref rg, .ref tr, .ref pn, .int (nI d), .int (nI r), .int ld, .int li, .int tl, .int mo]))] := ⟨hD0.1, fun k9 z9 h9 => cA_of h9⟩
  generalize hAe : cA [(x, .inr (2, [.ref rg, .ref tr, .ref pn, .int (nI d), .int (nI r), .int ld, .int li, .int tl, .int mo]))] = A at hD hAL ⊢
  have hS : va_S A s.heap s.heap [] := va_S.rf
  have hiX2 : ∀ w ∈ u_ws RX2 TX2 9, w ∈ wsX2_countMoves := by decide +kernel
  have hl := lv_entry ([.ref x, .int v]) (n := 2) (Nat.le_of_ble_eq_true rfl)
  rw [lg_entry_eq]
  generalize (lg_sl ([.ref x, .int v]) ++ List.replicate (2 - (lg_sl ([.ref x, .int v])).length) Slot.unset).toArray = ls at hl ⊢
  have hl : lv_has ls 2 [(0, .ref x), (1, .int v)] := hl
  refine lv_aload_n hx hb dX2_countMoves_0 rfl (lv_at hl 0 rfl) ?_
  refine va_get (D := D) (ci := 2) (v := .int ld) (C := RX2) (T := TX2) (N := 9) hx hb hts hiX2 hown hK hP 0 rfl rfl 5 (by decide) (hts (.fieldLink RX2 48 "CraneReach" "load" "I") (by decide +kernel)) (fun _ h9 => h9) rfl dX2_countMoves_1 ?_
  refine lv_if_le (tgt := 17) hx hb dX2_countMoves_4 (by decide) (fun c_3 => ?_) (fun c_3 => ?_)
  · exact W.vret hx hb hRt (fun t ht hW => ⟨⟨rfl, by rw [ht]; exact by rw [if_neg (i_len c_3)]; exact hP⟩, hS.F ht⟩) hS.2.2 dX2_countMoves_17
  · refine lv_aload_n hx hb dX2_countMoves_7 rfl (lv_at hl 0 rfl) ?_
    refine lv_dup hx hb dX2_countMoves_8 rfl ?_
    refine va_get (D := D) (ci := 2) (v := .int mo) (C := RX2) (T := TX2) (N := 9) hx hb hts hiX2 hown hK hP 0 rfl rfl 8 (by decide) (hts (.fieldLink RX2 121 "CraneReach" "movesWithLoad" "I") (by decide +kernel)) (fun _ h9 => h9) rfl dX2_countMoves_9 ?_
    refine lv_iload_n hx hb dX2_countMoves_12 rfl (lv_at hl 1 rfl) ?_
    refine lv_iadd hx hb dX2_countMoves_13 ?_
    refine va_put (D := D) (ci := 2) (v := .int (mo + v)) (ty := .int) (C := RX2) (T := TX2) (N := 9) hx hb hts hiX2 tyX2 tyX2_ok nmX2 hown hK hP hD hS 0 rfl rfl 8 (by decide) (hts (.fieldLink RX2 121 "CraneReach" "movesWithLoad" "I") (by decide +kernel)) (fun _ h9 => h9) rfl (by decide +kernel) rfl rfl (Nat.le_of_ble_eq_true rfl) dX2_countMoves_14 (fun H locs hP hD hS => ?_)
    have hP : va_P D vwCl [(x, .inr (2, [.ref rg, .ref tr, .ref pn, .int (nI d), .int (nI r), .int ld, .int li, .int tl, .int (mo + v)]))] H := hP
    have hD : va_D A [(x, .inr (2, [.ref rg, .ref tr, .ref pn, .int (nI d), .int (nI r), .int ld, .int li, .int tl, .int (mo + v)]))] := hD
    exact W.vret hx hb hRt (fun t ht hW => ⟨⟨rfl, by rw [ht]; exact by rw [if_pos (i_nle c_3)]; exact hP⟩, hS.F ht⟩) hS.2.2 dX2_countMoves_17
set_option maxHeartbeats 4000000 in
set_option maxRecDepth 100000 in
/-- outrigger -/
theorem k_outrigger (l : Launch) (hfl : l.stackTraces = false) (D : va_G) (L0 : Nat) (cI : ClassId) (x rg tr pn ro rl d r : Nat) (ld li tl mo pl : Int32) (fo fl : Nat → Int32) (v : Int32) (hd : d < 8) (hr : 3 ≤ r ∧ r ≤ 30) : vx_Met l yX2_outrigger wsX2_outrigger ({ frames := 7, cells := 1, slots := 6, locals := 103 }) (cP L0 D [(cI, .int)] [(x, .inr (2, [.ref rg, .ref tr, .ref pn, .int (nI d), .int (nI r), .int ld, .int li, .int tl, .int mo])), (rg, .inr (1, [.ref ro, .ref rl, .int pl])), (ro, .inl (cI, 4, .inl fo)), (rl, .inl (cI, 28, .inl (sh fl)))] [.ref x, .int v]) (cRP (some (.int (fo v.toNatClampNeg))) (k1 (inR v 0 3) = 0)) (cX (fun E => E = xIOB ∧ k1 (inR v 0 3) = 1) (fun _ => True) (fun _ => False)) 1 6 (fun _ => False) := by
  refine vx_ofW (cc := cX2_outrigger) (maxL := 2) (ret := (some .int)) (by decide) rfl ?_
  intro p e s m args below meth c s₁ B hml hxt hv
  obtain ⟨rfl, hP, hK, hD0, hE0⟩ := hv
  have hx := B.exec
  have hb := B.bytes
  have hRt := B.returns
  have hts := atoms_spec (ws := wsX2_outrigger) B.pre
  have hown : s.vm.findClass RX2 = some m.cls := findClass_of_methodNamed B.named
  have hlocks := B.notSynchronized
  have hAL : ∀ z9 : Nat, (fun _ : Nat => False) z9 → L0 ≤ z9 := fun z9 h9 => False.elim h9
  generalize hAe : (fun _ : Nat => False) = A at hAL ⊢
  have hS : va_S A s.heap s.heap [] := va_S.rf
  have hiX2 : ∀ w ∈ u_ws RX2 TX2 9, w ∈ wsX2_outrigger := by decide +kernel
  have hl := lv_entry ([.ref x, .int v]) (n := 2) (Nat.le_of_ble_eq_true rfl)
  rw [lg_entry_eq]
  generalize (lg_sl ([.ref x, .int v]) ++ List.replicate (2 - (lg_sl ([.ref x, .int v])).length) Slot.unset).toArray = ls at hl ⊢
  have hl : lv_has ls 2 [(0, .ref x), (1, .int v)] := hl
  refine lv_iload_n hx hb dX2_outrigger_0 rfl (lv_at hl 1 rfl) ?_
  have hPc := hP.sub (ws' := []) [] rfl
  have hDc := hD0.sub (ws' := []) [] (by decide) rfl
  have hKc := hK.sub (tys' := []) [] rfl
  refine c_callT (vx_runS (As := [.int v]) (rest := []) ⟨hx, hb, hml, hown, hts⟩ (k_requireSide l hfl D L0 v) (va_cwS 1 hts gX2_outrigger_X2_requireSide rfl rfl rfl (by decide +kernel) ⟨Nat.le_of_ble_eq_true rfl, Nat.le_of_ble_eq_true rfl⟩) ⟨cP_blind, cP_of hPc hKc hDc (kE_at hE0 hAL hS)⟩ rfl rfl hl.1 rfl (lv_room (Nat.le_of_ble_eq_true rfl)) dX2_outrigger_1 ⟨Nat.le_of_ble_eq_true rfl, Nat.le_of_ble_eq_true rfl⟩) hS (fun E ce q9 H1 hE hz1 hk1 hS hce hcv hcl => ?_) (fun hp => ?_)
  · obtain ⟨rfl, hE⟩ := hE
    exact vx_out (fun z hz => (hxt z hz).elim) hlocks hce hcv hcl (fun t ht hvm => ⟨⟨⟨rfl, k1_no hE⟩, trivial⟩, hS.F ht⟩) (fun z hz => hS.2.2 z hz) (Nat.le_of_ble_eq_true rfl) (Nat.le_of_ble_eq_true rfl)
  · show W _ _ _ _ _ _ _ _ _ _ _ _ _ _ _ (F0 m 4 ls [])
    obtain ⟨kv, hkv, hv⟩ := inR_nI (n := 3) (by decide) hp
    have hl : lv_has ls 2 [(0, .ref x), (1, .int (nI kv))] := (show v = nI kv from hv) ▸ hl
    have hvn : v.toNatClampNeg = kv := by rw [hv, nI_clamp (by omega)]
    refine lv_aload_n hx hb dX2_outrigger_4 rfl (lv_at hl 0 rfl) ?_
    refine va_get (D := D) (ci := 2) (v := .ref rg) (C := RX2) (T := TX2) (N := 9) hx hb hts hiX2 hown hK hP 0 rfl rfl 0 (by decide) (hts (.fieldLink RX2 12 "CraneReach" "rig" "LCraneReach$Rig;") (by decide +kernel)) (fun _ h9 => h9) rfl dX2_outrigger_5 ?_
    refine lv_iload_n hx hb dX2_outrigger_8 rfl (lv_at hl 1 rfl) ?_
    have hPc := hP.sub (ws' := [(rg, .inr (1, [.ref ro, .ref rl, .int pl])), (ro, .inl (cI, 4, .inl fo)), (rl, .inl (cI, 28, .inl (sh fl)))]) [1, 2, 3] rfl
    have hDc := hD0.sub (ws' := [(rg, .inr (1, [.ref ro, .ref rl, .int pl])), (ro, .inl (cI, 4, .inl fo)), (rl, .inl (cI, 28, .inl (sh fl)))]) [1, 2, 3] (by decide) rfl
    have hKc := hK.sub (tys' := [(cI, .int)]) [0] rfl
    refine c_callR (va_runV (As := [.int (nI kv)]) (rest := []) ⟨hx, hb, hml, hown, hts⟩ (k_drawn l D L0 cI rg ro rl pl fo (sh fl) kv (by omega)) (cwV 1 hts gX2_outrigger_X1_drawn rfl rfl rfl (by decide +kernel) ⟨Nat.le_of_ble_eq_true rfl, Nat.le_of_ble_eq_true rfl⟩) ⟨cP_blind, va_recv hKc hPc (ci := 1) (q0 := 0) rfl rfl, cP_of hPc hKc hDc (kE_at hE0 hAL hS)⟩ rfl rfl hl.1 rfl (lv_room (Nat.le_of_ble_eq_true rfl)) dX2_outrigger_9 ⟨Nat.le_of_ble_eq_true rfl, Nat.le_of_ble_eq_true rfl⟩) ?_
    show W _ _ _ _ _ _ _ _ _ _ _ _ _ _ _ (F0 m 12 ls [.int (fo kv)])
    refine vx_ret ?_
    refine W.widen (k := 1) (n := 6) (Nat.le_of_ble_eq_true rfl) (Nat.le_of_ble_eq_true rfl) ?_
    exact W.iret (v := (fo kv)) hx hb hRt (fun t ht hW => ⟨⟨by rw [hvn], ht⟩, k1_yes hp⟩) hS.2.2 dX2_outrigger_12
set_option maxHeartbeats 4000000 in
set_option maxRecDepth 100000 in
/-- limitAt -/
theorem k_limitAt (l : Launch) (hfl : l.stackTraces = false) (D : va_G) (L0 : Nat) (cI : ClassId) (x rg tr pn ro rl d r : Nat) (ld li tl mo pl : Int32) (fo fl : Nat → Int32) (v : Int32) (hd : d < 8) (hr : 3 ≤ r ∧ r ≤ 30) : vx_Met l yX2_limitAt wsX2_limitAt ({ frames := 7, cells := 1, slots := 6, locals := 103 }) (cP L0 D [(cI, .int)] [(x, .inr (2, [.ref rg, .ref tr, .ref pn, .int (nI d), .int (nI r), .int ld, .int li, .int tl, .int mo])), (rg, .inr (1, [.ref ro, .ref rl, .int pl])), (ro, .inl (cI, 4, .inl fo)), (rl, .inl (cI, 28, .inl (sh fl)))] [.ref x, .int v]) (cRP (some (.int (fl v.toNatClampNeg))) (k1 (inR v 3 30) = 0)) (cX (fun E => E = xIAE ∧ k1 (inR v 3 30) = 1) (fun _ => True) (fun _ => False)) 1 6 (fun _ => False) := by
  refine vx_ofW (cc := cX2_limitAt) (maxL := 2) (ret := (some .int)) (by decide) rfl ?_
  intro p e s m args below meth c s₁ B hml hxt hv
  obtain ⟨rfl, hP, hK, hD0, hE0⟩ := hv
  have hx := B.exec
  have hb := B.bytes
  have hRt := B.returns
  have hts := atoms_spec (ws := wsX2_limitAt) B.pre
  have hown : s.vm.findClass RX2 = some m.cls := findClass_of_methodNamed B.named
  have hlocks := B.notSynchronized
  have hAL : ∀ z9 : Nat, (fun _ : Nat => False) z9 → L0 ≤ z9 := fun z9 h9 => False.elim h9
  generalize hAe : (fun _ : Nat => False) = A at hAL ⊢
  have hS : va_S A s.heap s.heap [] := va_S.rf
  have hiX2 : ∀ w ∈ u_ws RX2 TX2 9, w ∈ wsX2_limitAt := by decide +kernel
  have hl := lv_entry ([.ref x, .int v]) (n := 2) (Nat.le_of_ble_eq_true rfl)
  rw [lg_entry_eq]
  generalize (lg_sl ([.ref x, .int v]) ++ List.replicate (2 - (lg_sl ([.ref x, .int v])).length) Slot.unset).toArray = ls at hl ⊢
  have hl : lv_has ls 2 [(0, .ref x), (1, .int v)] := hl
  refine lv_iload_n hx hb dX2_limitAt_0 rfl (lv_at hl 1 rfl) ?_
  have hPc := hP.sub (ws' := []) [] rfl
  have hDc := hD0.sub (ws' := []) [] (by decide) rfl
  have hKc := hK.sub (tys' := []) [] rfl
  refine c_callT (vx_runS (As := [.int v]) (rest := []) ⟨hx, hb, hml, hown, hts⟩ (k_requireReach l hfl D L0 v) (va_cwS 1 hts gX2_limitAt_X2_requireReach rfl rfl rfl (by decide +kernel) ⟨Nat.le_of_ble_eq_true rfl, Nat.le_of_ble_eq_true rfl⟩) ⟨cP_blind, cP_of hPc hKc hDc (kE_at hE0 hAL hS)⟩ rfl rfl hl.1 rfl (lv_room (Nat.le_of_ble_eq_true rfl)) dX2_limitAt_1 ⟨Nat.le_of_ble_eq_true rfl, Nat.le_of_ble_eq_true rfl⟩) hS (fun E ce q9 H1 hE hz1 hk1 hS hce hcv hcl => ?_) (fun hp => ?_)
  · obtain ⟨rfl, hE⟩ := hE
    exact vx_out (fun z hz => (hxt z hz).elim) hlocks hce hcv hcl (fun t ht hvm => ⟨⟨⟨rfl, k1_no hE⟩, trivial⟩, hS.F ht⟩) (fun z hz => hS.2.2 z hz) (Nat.le_of_ble_eq_true rfl) (Nat.le_of_ble_eq_true rfl)
  · show W _ _ _ _ _ _ _ _ _ _ _ _ _ _ _ (F0 m 4 ls [])
    obtain ⟨kv, hkv, hv⟩ := inR_n3 (n := 30) (by decide) hp
    have hl : lv_has ls 2 [(0, .ref x), (1, .int (nI kv))] := (show v = nI kv from hv) ▸ hl
    have hvn : v.toNatClampNeg = kv := by rw [hv, nI_clamp (by omega)]
    refine lv_aload_n hx hb dX2_limitAt_4 rfl (lv_at hl 0 rfl) ?_
    refine va_get (D := D) (ci := 2) (v := .ref rg) (C := RX2) (T := TX2) (N := 9) hx hb hts hiX2 hown hK hP 0 rfl rfl 0 (by decide) (hts (.fieldLink RX2 12 "CraneReach" "rig" "LCraneReach$Rig;") (by decide +kernel)) (fun _ h9 => h9) rfl dX2_limitAt_5 ?_
    refine lv_iload_n hx hb dX2_limitAt_8 rfl (lv_at hl 1 rfl) ?_
    have hPc := hP.sub (ws' := [(rg, .inr (1, [.ref ro, .ref rl, .int pl])), (ro, .inl (cI, 4, .inl fo)), (rl, .inl (cI, 28, .inl (sh fl)))]) [1, 2, 3] rfl
    have hDc := hD0.sub (ws' := [(rg, .inr (1, [.ref ro, .ref rl, .int pl])), (ro, .inl (cI, 4, .inl fo)), (rl, .inl (cI, 28, .inl (sh fl)))]) [1, 2, 3] (by decide) rfl
    have hKc := hK.sub (tys' := [(cI, .int)]) [0] rfl
    refine c_callR (va_runV (As := [.int (nI kv)]) (rest := []) ⟨hx, hb, hml, hown, hts⟩ (k_allowed l D L0 cI rg ro rl pl fo (sh fl) kv hkv) (cwV 1 hts gX2_limitAt_X1_allowed rfl rfl rfl (by decide +kernel) ⟨Nat.le_of_ble_eq_true rfl, Nat.le_of_ble_eq_true rfl⟩) ⟨cP_blind, va_recv hKc hPc (ci := 1) (q0 := 0) rfl rfl, cP_of hPc hKc hDc (kE_at hE0 hAL hS)⟩ rfl rfl hl.1 rfl (lv_room (Nat.le_of_ble_eq_true rfl)) dX2_limitAt_9 ⟨Nat.le_of_ble_eq_true rfl, Nat.le_of_ble_eq_true rfl⟩) ?_
    show W _ _ _ _ _ _ _ _ _ _ _ _ _ _ _ (F0 m 12 ls [.int (sh fl (kv - 3))])
    refine c_top (show sh fl (kv - 3) = fl kv from sh_at hkv.1) ?_
    refine vx_ret ?_
    refine W.widen (k := 1) (n := 6) (Nat.le_of_ble_eq_true rfl) (Nat.le_of_ble_eq_true rfl) ?_
    exact W.iret (v := (fl kv)) hx hb hRt (fun t ht hW => ⟨⟨by rw [hvn], ht⟩, k1_yes hp⟩) hS.2.2 dX2_limitAt_12
set_option maxHeartbeats 4000000 in
set_option maxRecDepth 100000 in
/-- strainOn -/
theorem k_strainOn (l : Launch) (hfl : l.stackTraces = false) (D : va_G) (L0 : Nat) (cI : ClassId) (x rg tr pn ro rl d r : Nat) (ld li tl mo pl : Int32) (fo fl : Nat → Int32) (v : Int32) (hd : d < 8) (hr : 3 ≤ r ∧ r ≤ 30) : vx_Met l yX2_strainOn wsX2_strainOn ({ frames := 7, cells := 1, slots := 6, locals := 103 }) (cP L0 D [(cI, .int)] [(x, .inr (2, [.ref rg, .ref tr, .ref pn, .int (nI d), .int (nI r), .int ld, .int li, .int tl, .int mo])), (rg, .inr (1, [.ref ro, .ref rl, .int pl])), (ro, .inl (cI, 4, .inl fo)), (rl, .inl (cI, 28, .inl (sh fl)))] [.ref x, .int v]) (cRP (some (.int (strS fo pl v.toNatClampNeg ld d r))) (k1 (inR v 0 3) = 0)) (cX (fun E => E = xIOB ∧ k1 (inR v 0 3) = 1) (fun _ => True) (fun _ => False)) 1 6 (fun _ => False) := by
  refine vx_ofW (cc := cX2_strainOn) (maxL := 2) (ret := (some .int)) (by decide) rfl ?_
  intro p e s m args below meth c s₁ B hml hxt hv
  obtain ⟨rfl, hP, hK, hD0, hE0⟩ := hv
  have hx := B.exec
  have hb := B.bytes
  have hRt := B.returns
  have hts := atoms_spec (ws := wsX2_strainOn) B.pre
  have hown : s.vm.findClass RX2 = some m.cls := findClass_of_methodNamed B.named
  have hlocks := B.notSynchronized
  have hAL : ∀ z9 : Nat, (fun _ : Nat => False) z9 → L0 ≤ z9 := fun z9 h9 => False.elim h9
  generalize hAe : (fun _ : Nat => False) = A at hAL ⊢
  have hS : va_S A s.heap s.heap [] := va_S.rf
  have hiX2 : ∀ w ∈ u_ws RX2 TX2 9, w ∈ wsX2_strainOn := by decide +kernel
  have hl := lv_entry ([.ref x, .int v]) (n := 2) (Nat.le_of_ble_eq_true rfl)
  rw [lg_entry_eq]
  generalize (lg_sl ([.ref x, .int v]) ++ List.replicate (2 - (lg_sl ([.ref x, .int v])).length) Slot.unset).toArray = ls at hl ⊢
  have hl : lv_has ls 2 [(0, .ref x), (1, .int v)] := hl
  refine lv_iload_n hx hb dX2_strainOn_0 rfl (lv_at hl 1 rfl) ?_
  have hPc := hP.sub (ws' := []) [] rfl
  have hDc := hD0.sub (ws' := []) [] (by decide) rfl
  have hKc := hK.sub (tys' := []) [] rfl
  refine c_callT (vx_runS (As := [.int v]) (rest := []) ⟨hx, hb, hml, hown, hts⟩ (k_requireSide l hfl D L0 v) (va_cwS 1 hts gX2_strainOn_X2_requireSide rfl rfl rfl (by decide +kernel) ⟨Nat.le_of_ble_eq_true rfl, Nat.le_of_ble_eq_true rfl⟩) ⟨cP_blind, cP_of hPc hKc hDc (kE_at hE0 hAL hS)⟩ rfl rfl hl.1 rfl (lv_room (Nat.le_of_ble_eq_true rfl)) dX2_strainOn_1 ⟨Nat.le_of_ble_eq_true rfl, Nat.le_of_ble_eq_true rfl⟩) hS (fun E ce q9 H1 hE hz1 hk1 hS hce hcv hcl => ?_) (fun hp => ?_)
  · obtain ⟨rfl, hE⟩ := hE
    exact vx_out (fun z hz => (hxt z hz).elim) hlocks hce hcv hcl (fun t ht hvm => ⟨⟨⟨rfl, k1_no hE⟩, trivial⟩, hS.F ht⟩) (fun z hz => hS.2.2 z hz) (Nat.le_of_ble_eq_true rfl) (Nat.le_of_ble_eq_true rfl)
  · show W _ _ _ _ _ _ _ _ _ _ _ _ _ _ _ (F0 m 4 ls [])
    obtain ⟨kv, hkv, hv⟩ := inR_nI (n := 3) (by decide) hp
    have hl : lv_has ls 2 [(0, .ref x), (1, .int (nI kv))] := (show v = nI kv from hv) ▸ hl
    have hvn : v.toNatClampNeg = kv := by rw [hv, nI_clamp (by omega)]
    refine lv_aload_n hx hb dX2_strainOn_4 rfl (lv_at hl 0 rfl) ?_
    refine va_get (D := D) (ci := 2) (v := .ref rg) (C := RX2) (T := TX2) (N := 9) hx hb hts hiX2 hown hK hP 0 rfl rfl 0 (by decide) (hts (.fieldLink RX2 12 "CraneReach" "rig" "LCraneReach$Rig;") (by decide +kernel)) (fun _ h9 => h9) rfl dX2_strainOn_5 ?_
    refine lv_iload_n hx hb dX2_strainOn_8 rfl (lv_at hl 1 rfl) ?_
    refine lv_aload_n hx hb dX2_strainOn_9 rfl (lv_at hl 0 rfl) ?_
    refine va_get (D := D) (ci := 2) (v := .int ld) (C := RX2) (T := TX2) (N := 9) hx hb hts hiX2 hown hK hP 0 rfl rfl 5 (by decide) (hts (.fieldLink RX2 48 "CraneReach" "load" "I") (by decide +kernel)) (fun _ h9 => h9) rfl dX2_strainOn_10 ?_
    refine lv_aload_n hx hb dX2_strainOn_13 rfl (lv_at hl 0 rfl) ?_
    refine va_get (D := D) (ci := 2) (v := .int (nI d)) (C := RX2) (T := TX2) (N := 9) hx hb hts hiX2 hown hK hP 0 rfl rfl 3 (by decide) (hts (.fieldLink RX2 98 "CraneReach" "direction" "I") (by decide +kernel)) (fun _ h9 => h9) rfl dX2_strainOn_14 ?_
    refine lv_aload_n hx hb dX2_strainOn_17 rfl (lv_at hl 0 rfl) ?_
    refine va_get (D := D) (ci := 2) (v := .int (nI r)) (C := RX2) (T := TX2) (N := 9) hx hb hts hiX2 hown hK hP 0 rfl rfl 4 (by decide) (hts (.fieldLink RX2 26 "CraneReach" "reach" "I") (by decide +kernel)) (fun _ h9 => h9) rfl dX2_strainOn_18 ?_
    have hPc := hP.sub (ws' := [(rg, .inr (1, [.ref ro, .ref rl, .int pl])), (ro, .inl (cI, 4, .inl fo)), (rl, .inl (cI, 28, .inl (sh fl)))]) [1, 2, 3] rfl
    have hDc := hD0.sub (ws' := [(rg, .inr (1, [.ref ro, .ref rl, .int pl])), (ro, .inl (cI, 4, .inl fo)), (rl, .inl (cI, 28, .inl (sh fl)))]) [1, 2, 3] (by decide) rfl
    have hKc := hK.sub (tys' := [(cI, .int)]) [0] rfl
    refine c_callR (va_runV (As := [.int (nI kv), .int ld, .int (nI d), .int (nI r)]) (rest := []) ⟨hx, hb, hml, hown, hts⟩ (k_strain l D L0 cI rg ro rl pl fo (sh fl) kv d r ld (by omega) hd) (cwV 4 hts gX2_strainOn_X1_strain rfl rfl rfl (by decide +kernel) ⟨Nat.le_of_ble_eq_true rfl, Nat.le_of_ble_eq_true rfl⟩) ⟨cP_blind, va_recv hKc hPc (ci := 1) (q0 := 0) rfl rfl, cP_of hPc hKc hDc (kE_at hE0 hAL hS)⟩ rfl rfl hl.1 rfl (lv_room (Nat.le_of_ble_eq_true rfl)) dX2_strainOn_21 ⟨Nat.le_of_ble_eq_true rfl, Nat.le_of_ble_eq_true rfl⟩) ?_
    show W _ _ _ _ _ _ _ _ _ _ _ _ _ _ _ (F0 m 24 ls [.int (strS fo pl kv ld d r)])
    refine vx_ret ?_
    refine W.widen (k := 1) (n := 6) (Nat.le_of_ble_eq_true rfl) (Nat.le_of_ble_eq_true rfl) ?_
    exact W.iret (v := (strS fo pl kv ld d r)) hx hb hRt (fun t ht hW => ⟨⟨by rw [hvn], ht⟩, k1_yes hp⟩) hS.2.2 dX2_strainOn_24
set_option maxHeartbeats 4000000 in
set_option maxRecDepth 100000 in
/-- isSafeWith(load, direction, reach) -/
theorem k_isSafeWith (l : Launch) (hfl : l.stackTraces = false) (D : va_G) (L0 : Nat) (cI : ClassId) (x rg tr pn ro rl d r : Nat) (ld li tl mo pl : Int32) (fo fl : Nat → Int32) (u v z : Int32) : vx_Met l yX2_isSafeWith wsX2_isSafeWith ({ frames := 7, cells := 3, slots := 18, locals := 103 }) (cP L0 D [(cI, .int)] [(x, .inr (2, [.ref rg, .ref tr, .ref pn, .int (nI d), .int (nI r), .int ld, .int li, .int tl, .int mo])), (rg, .inr (1, [.ref ro, .ref rl, .int pl])), (ro, .inl (cI, 4, .inl fo)), (rl, .inl (cI, 28, .inl (sh fl)))] [.ref x, .int u, .int v, .int z]) (cRP (some (.int (bI (safS fo fl pl u v.toNatClampNeg z.toNatClampNeg)))) (k2 (inR v 0 7) (inR u 0 60 ∧ inR z 3 30) = 0)) (cX (fun E => (E = xIOB ∧ k2 (inR v 0 7) (inR u 0 60 ∧ inR z 3 30) = 1) ∨ (E = xIAE ∧ k2 (inR v 0 7) (inR u 0 60 ∧ inR z 3 30) = 2)) (fun _ => True) (fun _ => False)) 3 18 (fun _ => False) := by
  refine vx_ofW (cc := cX2_isSafeWith) (maxL := 4) (ret := (some .boolean)) (by decide) rfl ?_
  intro p e s m args below meth c s₁ B hml hxt hv
  obtain ⟨rfl, hP, hK, hD0, hE0⟩ := hv
  have hx := B.exec
  have hb := B.bytes
  have hRt := B.returns
  have hts := atoms_spec (ws := wsX2_isSafeWith) B.pre
  have hown : s.vm.findClass RX2 = some m.cls := findClass_of_methodNamed B.named
  have hlocks := B.notSynchronized
  have hAL : ∀ z9 : Nat, (fun _ : Nat => False) z9 → L0 ≤ z9 := fun z9 h9 => False.elim h9
  generalize hAe : (fun _ : Nat => False) = A at hAL ⊢
  have hS : va_S A s.heap s.heap [] := va_S.rf
  have hiX2 : ∀ w ∈ u_ws RX2 TX2 9, w ∈ wsX2_isSafeWith := by decide +kernel
  have hl := lv_entry ([.ref x, .int u, .int v, .int z]) (n := 4) (Nat.le_of_ble_eq_true rfl)
  rw [lg_entry_eq]
  generalize (lg_sl ([.ref x, .int u, .int v, .int z]) ++ List.replicate (4 - (lg_sl ([.ref x, .int u, .int v, .int z])).length) Slot.unset).toArray = ls at hl ⊢
  have hl : lv_has ls 4 [(0, .ref x), (1, .int u), (2, .int v), (3, .int z)] := hl
  refine lv_iload_n hx hb dX2_isSafeWith_0 rfl (lv_at hl 2 rfl) ?_
  have hPc := hP.sub (ws' := []) [] rfl
  have hDc := hD0.sub (ws' := []) [] (by decide) rfl
  have hKc := hK.sub (tys' := []) [] rfl
  refine c_callT (vx_runS (As := [.int v]) (rest := []) ⟨hx, hb, hml, hown, hts⟩ (k_requireDirection l hfl D L0 v) (va_cwS 1 hts gX2_isSafeWith_X2_requireDirection rfl rfl rfl (by decide +kernel) ⟨Nat.le_of_ble_eq_true rfl, Nat.le_of_ble_eq_true rfl⟩) ⟨cP_blind, cP_of hPc hKc hDc (kE_at hE0 hAL hS)⟩ rfl rfl hl.1 rfl (lv_room (Nat.le_of_ble_eq_true rfl)) dX2_isSafeWith_1 ⟨Nat.le_of_ble_eq_true rfl, Nat.le_of_ble_eq_true rfl⟩) hS (fun E ce q9 H1 hE hz1 hk1 hS hce hcv hcl => ?_) (fun hp1 => ?_)
  · obtain ⟨rfl, hE⟩ := hE
    exact vx_out (fun z hz => (hxt z hz).elim) hlocks hce hcv hcl (fun t ht hvm => ⟨⟨Or.inl ⟨rfl, k2_n1 hE⟩, trivial⟩, hS.F ht⟩) (fun z hz => hS.2.2 z hz) (Nat.le_of_ble_eq_true rfl) (Nat.le_of_ble_eq_true rfl)
  · show W _ _ _ _ _ _ _ _ _ _ _ _ _ _ _ (F0 m 4 ls [])
    refine lv_iload_n hx hb dX2_isSafeWith_4 rfl (lv_at hl 1 rfl) ?_
    have hPc := hP.sub (ws' := []) [] rfl
    have hDc := hD0.sub (ws' := []) [] (by decide) rfl
    have hKc := hK.sub (tys' := []) [] rfl
    refine c_callT (vx_runS (As := [.int u]) (rest := []) ⟨hx, hb, hml, hown, hts⟩ (k_requireLoad l hfl D L0 u) (va_cwS 1 hts gX2_isSafeWith_X2_requireLoad rfl rfl rfl (by decide +kernel) ⟨Nat.le_of_ble_eq_true rfl, Nat.le_of_ble_eq_true rfl⟩) ⟨cP_blind, cP_of hPc hKc hDc (kE_at hE0 hAL hS)⟩ rfl rfl hl.1 rfl (lv_room (Nat.le_of_ble_eq_true rfl)) dX2_isSafeWith_5 ⟨Nat.le_of_ble_eq_true rfl, Nat.le_of_ble_eq_true rfl⟩) hS (fun E ce q9 H1 hE hz1 hk1 hS hce hcv hcl => ?_) (fun hp2 => ?_)
    · obtain ⟨rfl, hE⟩ := hE
      exact vx_out (fun z hz => (hxt z hz).elim) hlocks hce hcv hcl (fun t ht hvm => ⟨⟨Or.inr ⟨rfl, k2_n2 hp1 (fun q => hE q.1)⟩, trivial⟩, hS.F ht⟩) (fun z hz => hS.2.2 z hz) (Nat.le_of_ble_eq_true rfl) (Nat.le_of_ble_eq_true rfl)
    · show W _ _ _ _ _ _ _ _ _ _ _ _ _ _ _ (F0 m 8 ls [])
      refine lv_iload_n hx hb dX2_isSafeWith_8 rfl (lv_at hl 3 rfl) ?_
      have hPc := hP.sub (ws' := []) [] rfl
      have hDc := hD0.sub (ws' := []) [] (by decide) rfl
      have hKc := hK.sub (tys' := []) [] rfl
      refine c_callT (vx_runS (As := [.int z]) (rest := []) ⟨hx, hb, hml, hown, hts⟩ (k_requireReach l hfl D L0 z) (va_cwS 1 hts gX2_isSafeWith_X2_requireReach rfl rfl rfl (by decide +kernel) ⟨Nat.le_of_ble_eq_true rfl, Nat.le_of_ble_eq_true rfl⟩) ⟨cP_blind, cP_of hPc hKc hDc (kE_at hE0 hAL hS)⟩ rfl rfl hl.1 rfl (lv_room (Nat.le_of_ble_eq_true rfl)) dX2_isSafeWith_9 ⟨Nat.le_of_ble_eq_true rfl, Nat.le_of_ble_eq_true rfl⟩) hS (fun E ce q9 H1 hE hz1 hk1 hS hce hcv hcl => ?_) (fun hp3 => ?_)
      · obtain ⟨rfl, hE⟩ := hE
        exact vx_out (fun z hz => (hxt z hz).elim) hlocks hce hcv hcl (fun t ht hvm => ⟨⟨Or.inr ⟨rfl, k2_n2 hp1 (fun q => hE q.2)⟩, trivial⟩, hS.F ht⟩) (fun z hz => hS.2.2 z hz) (Nat.le_of_ble_eq_true rfl) (Nat.le_of_ble_eq_true rfl)
      · show W _ _ _ _ _ _ _ _ _ _ _ _ _ _ _ (F0 m 12 ls [])
        obtain ⟨kv, hkv, hv⟩ := inR_nI (n := 7) (by decide) hp1
        have hl : lv_has ls 4 [(0, .ref x), (1, .int u), (2, .int (nI kv)), (3, .int z)] := (show v = nI kv from hv) ▸ hl
        obtain ⟨kz, hkz, hz⟩ := inR_n3 (n := 30) (by decide) hp3
        have hl : lv_has ls 4 [(0, .ref x), (1, .int u), (2, .int (nI kv)), (3, .int (nI kz))] := (show z = nI kz from hz) ▸ hl
        refine lv_aload_n hx hb dX2_isSafeWith_12 rfl (lv_at hl 0 rfl) ?_
        refine va_get (D := D) (ci := 2) (v := .ref rg) (C := RX2) (T := TX2) (N := 9) hx hb hts hiX2 hown hK hP 0 rfl rfl 0 (by decide) (hts (.fieldLink RX2 12 "CraneReach" "rig" "LCraneReach$Rig;") (by decide +kernel)) (fun _ h9 => h9) rfl dX2_isSafeWith_13 ?_
        refine lv_iload_n hx hb dX2_isSafeWith_16 rfl (lv_at hl 1 rfl) ?_
        refine lv_iload_n hx hb dX2_isSafeWith_17 rfl (lv_at hl 2 rfl) ?_
        refine lv_iload_n hx hb dX2_isSafeWith_18 rfl (lv_at hl 3 rfl) ?_
        have hPc := hP.sub (ws' := [(rg, .inr (1, [.ref ro, .ref rl, .int pl])), (ro, .inl (cI, 4, .inl fo)), (rl, .inl (cI, 28, .inl (sh fl)))]) [1, 2, 3] rfl
        have hDc := hD0.sub (ws' := [(rg, .inr (1, [.ref ro, .ref rl, .int pl])), (ro, .inl (cI, 4, .inl fo)), (rl, .inl (cI, 28, .inl (sh fl)))]) [1, 2, 3] (by decide) rfl
        have hKc := hK.sub (tys' := [(cI, .int)]) [0] rfl
        refine c_callR (va_runV (As := [.int u, .int (nI kv), .int (nI kz)]) (rest := []) ⟨hx, hb, hml, hown, hts⟩ (k_isSafe l D L0 cI rg ro rl pl fo fl kv kz u (by omega) hkz) (cwV 3 hts gX2_isSafeWith_X1_isSafe rfl rfl rfl (by decide +kernel) ⟨Nat.le_of_ble_eq_true rfl, Nat.le_of_ble_eq_true rfl⟩) ⟨cP_blind, va_recv hKc hPc (ci := 1) (q0 := 0) rfl rfl, cP_of hPc hKc hDc (kE_at hE0 hAL hS)⟩ rfl rfl hl.1 rfl (lv_room (Nat.le_of_ble_eq_true rfl)) dX2_isSafeWith_19 ⟨Nat.le_of_ble_eq_true rfl, Nat.le_of_ble_eq_true rfl⟩) ?_
        show W _ _ _ _ _ _ _ _ _ _ _ _ _ _ _ (F0 m 22 ls [.int (bI (safS fo fl pl u kv kz))])
        refine vx_ret ?_
        refine W.widen (k := 3) (n := 18) (Nat.le_of_ble_eq_true rfl) (Nat.le_of_ble_eq_true rfl) ?_
        exact W.zret (v := (bI (safS fo fl pl u kv kz))) hx hb hRt (bI_nar _) (fun t ht hW => ⟨⟨by rw [hv, hz, nI_clamp (by omega), nI_clamp (by omega)], ht⟩, k2_yes hp1 ⟨hp2, hp3⟩⟩) hS.2.2 dX2_isSafeWith_22
set_option maxHeartbeats 4000000 in
set_option maxRecDepth 100000 in
/-- weakestSide() -/
theorem k_weakestSide (l : Launch) (D : va_G) (L0 : Nat) (cI : ClassId) (x rg tr pn ro rl d r : Nat) (ld li tl mo pl : Int32) (fo fl : Nat → Int32) (hd : d < 8) : Met l yX2_weakestSide wsX2_weakestSide ({ frames := 2, cells := 0, slots := 0, locals := 47 }) (cP L0 D [(cI, .int)] [(x, .inr (2, [.ref rg, .ref tr, .ref pn, .int (nI d), .int (nI r), .int ld, .int li, .int tl, .int mo])), (rg, .inr (1, [.ref ro, .ref rl, .int pl])), (ro, .inl (cI, 4, .inl fo)), (rl, .inl (cI, 28, .inl (sh fl)))] [.ref x]) (cR (some (.int (nI (wkN (fun k => strS fo pl k ld d r) 4))))) 0 0 (fun _ => False) := by
  refine Met.ofW (cc := cX2_weakestSide) (maxL := 5) (ret := (some .int)) (by decide) rfl ?_
  intro p e s m args below meth c s₁ B hml hv
  obtain ⟨rfl, hP, hK, hD0, hE0⟩ := hv
  have hx := B.exec
  have hb := B.bytes
  have hRt := B.returns
  have hts := atoms_spec (ws := wsX2_weakestSide) B.pre
  have hown : s.vm.findClass RX2 = some m.cls := findClass_of_methodNamed B.named
  have hlocks := B.notSynchronized
  have hAL : ∀ z9 : Nat, (fun _ : Nat => False) z9 → L0 ≤ z9 := fun z9 h9 => False.elim h9
  generalize hAe : (fun _ : Nat => False) = A at hAL ⊢
  have hS : va_S A s.heap s.heap [] := va_S.rf
  have hiX2 : ∀ w ∈ u_ws RX2 TX2 9, w ∈ wsX2_weakestSide := by decide +kernel
  have hl := lv_entry ([.ref x]) (n := 5) (Nat.le_of_ble_eq_true rfl)
  rw [lg_entry_eq]
  generalize (lg_sl ([.ref x]) ++ List.replicate (5 - (lg_sl ([.ref x])).length) Slot.unset).toArray = ls at hl ⊢
  have hl : lv_has ls 5 [(0, .ref x)] := hl
  have loop : ∀ (n : Nat) (k : Nat) (ls : Array Slot), k + n = 5 → 1 ≤ k ∧ k ≤ 4 → lv_has ls 5 [(3, .int (nI k)), (2, .int (strS fo pl (wkN (fun k => strS fo pl k ld d r) k) ld d r)), (1, .int (nI (wkN (fun k => strS fo pl k ld d r) k))), (0, .ref x)] → W p l e (headSpec wsX2_weakestSide ({ frames := 2, cells := 0, slots := 0, locals := 47 })).room s m ([.ref x]).toArray below meth c s.heap [] 0 0 (MQ below (cR (some (.int (nI (wkN (fun k => strS fo pl k ld d r) 4))))) ([.ref x]).toArray s 0 0 A) (F0 m 25 ls []) := by
    intro n
    induction n with
    | zero =>
      intro k ls hn hk hl
      exact absurd hn (by omega)
    | succ n ih =>
      intro k ls hn hk hl
      refine lv_iload_n hx hb dX2_weakestSide_25 rfl (lv_at hl 0 rfl) ?_
      refine lv_iconst (v := 4) hx hb dX2_weakestSide_26 (by decide) ?_
      refine lv_icmp_ge (tgt := 69) hx hb dX2_weakestSide_27 (by decide) (fun c_4 => ?_) (fun c_4 => ?_)
      · have hk4 : k = 4 := by
          rcases Nat.lt_or_ge k 4 with z | z
          · exact absurd c_4 (nI_ge (b := 4) z (by decide))
          · omega
        refine lv_iload_n hx hb dX2_weakestSide_69 rfl (lv_at hl 2 rfl) ?_
        exact W.iret (v := (nI (wkN (fun k => strS fo pl k ld d r) k))) hx hb hRt (fun t ht hW => ⟨by rw [hk4], ht⟩) hS.2.2 dX2_weakestSide_70
      · have hk4 : k < 4 := by
          rcases Nat.lt_or_ge k 4 with z | z
          · exact z
          · exact absurd (nI_le (a := 4) z (by omega)) c_4
        refine lv_aload_n hx hb dX2_weakestSide_30 rfl (lv_at hl 3 rfl) ?_
        refine va_get (D := D) (ci := 2) (v := .ref rg) (C := RX2) (T := TX2) (N := 9) hx hb hts hiX2 hown hK hP 0 rfl rfl 0 (by decide) (hts (.fieldLink RX2 12 "CraneReach" "rig" "LCraneReach$Rig;") (by decide +kernel)) (fun _ h9 => h9) rfl dX2_weakestSide_31 ?_
        refine lv_iload_n hx hb dX2_weakestSide_34 rfl (lv_at hl 0 rfl) ?_
        refine lv_aload_n hx hb dX2_weakestSide_35 rfl (lv_at hl 3 rfl) ?_
        refine va_get (D := D) (ci := 2) (v := .int ld) (C := RX2) (T := TX2) (N := 9) hx hb hts hiX2 hown hK hP 0 rfl rfl 5 (by decide) (hts (.fieldLink RX2 48 "CraneReach" "load" "I") (by decide +kernel)) (fun _ h9 => h9) rfl dX2_weakestSide_36 ?_
        refine lv_aload_n hx hb dX2_weakestSide_39 rfl (lv_at hl 3 rfl) ?_
        refine va_get (D := D) (ci := 2) (v := .int (nI d)) (C := RX2) (T := TX2) (N := 9) hx hb hts hiX2 hown hK hP 0 rfl rfl 3 (by decide) (hts (.fieldLink RX2 98 "CraneReach" "direction" "I") (by decide +kernel)) (fun _ h9 => h9) rfl dX2_weakestSide_40 ?_
        refine lv_aload_n hx hb dX2_weakestSide_43 rfl (lv_at hl 3 rfl) ?_
        refine va_get (D := D) (ci := 2) (v := .int (nI r)) (C := RX2) (T := TX2) (N := 9) hx hb hts hiX2 hown hK hP 0 rfl rfl 4 (by decide) (hts (.fieldLink RX2 26 "CraneReach" "reach" "I") (by decide +kernel)) (fun _ h9 => h9) rfl dX2_weakestSide_44 ?_
        have hPc := hP.sub (ws' := [(rg, .inr (1, [.ref ro, .ref rl, .int pl])), (ro, .inl (cI, 4, .inl fo)), (rl, .inl (cI, 28, .inl (sh fl)))]) [1, 2, 3] rfl
        have hDc := hD0.sub (ws' := [(rg, .inr (1, [.ref ro, .ref rl, .int pl])), (ro, .inl (cI, 4, .inl fo)), (rl, .inl (cI, 28, .inl (sh fl)))]) [1, 2, 3] (by decide) rfl
        have hKc := hK.sub (tys' := [(cI, .int)]) [0] rfl
        refine c_callR (va_runV (As := [.int (nI k), .int ld, .int (nI d), .int (nI r)]) (rest := []) ⟨hx, hb, hml, hown, hts⟩ (k_strain l D L0 cI rg ro rl pl fo (sh fl) k d r ld hk4 hd) (cwV 4 hts gX2_weakestSide_X1_strain rfl rfl rfl (by decide +kernel) ⟨Nat.le_of_ble_eq_true rfl, Nat.le_of_ble_eq_true rfl⟩) ⟨cP_blind, va_recv hKc hPc (ci := 1) (q0 := 0) rfl rfl, cP_of hPc hKc hDc (kE_at hE0 hAL hS)⟩ rfl rfl hl.1 rfl (lv_room (Nat.le_of_ble_eq_true rfl)) dX2_weakestSide_47 ⟨Nat.le_of_ble_eq_true rfl, Nat.le_of_ble_eq_true rfl⟩) ?_
        show W _ _ _ _ _ _ _ _ _ _ _ _ _ _ _ (F0 m 50 ls [.int (strS fo pl k ld d r)])
        refine lv_istore (lv' := [(4, .int (strS fo pl k ld d r)), (3, .int (nI k)), (2, .int (strS fo pl (wkN (fun k => strS fo pl k ld d r) k) ld d r)), (1, .int (nI (wkN (fun k => strS fo pl k ld d r) k))), (0, .ref x)]) hx hb dX2_weakestSide_50 hl (by decide) rfl (fun ls hl => ?_)
        refine lv_iload hx hb dX2_weakestSide_52 (lv_at hl 0 rfl) ?_
        refine lv_iload_n hx hb dX2_weakestSide_54 rfl (lv_at hl 2 rfl) ?_
        refine lv_icmp_le (tgt := 63) hx hb dX2_weakestSide_55 (by decide) (fun c_5 => ?_) (fun c_5 => ?_)
        · have e : wkN (fun k => strS fo pl k ld d r) (k + 1) = wkN (fun k => strS fo pl k ld d r) k := by rw [wkN, if_neg (by omega), if_neg (i_len c_5)]
          refine lv_iinc (v := (nI k) + 1) (lv' := [(3, .int ((nI k) + 1)), (4, .int (strS fo pl k ld d r)), (2, .int (strS fo pl (wkN (fun k => strS fo pl k ld d r) k) ld d r)), (1, .int (nI (wkN (fun k => strS fo pl k ld d r) k))), (0, .ref x)]) hx hb dX2_weakestSide_63 hl (k := 1) rfl rfl (by decide) rfl (fun ls hl => ?_)
          refine lv_goto (tgt := 25) hx hb dX2_weakestSide_66 (by decide) ?_
          have hl : lv_has ls 5 [(3, .int (nI (k + 1))), (4, .int (strS fo pl k ld d r)), (2, .int (strS fo pl (wkN (fun k => strS fo pl k ld d r) k) ld d r)), (1, .int (nI (wkN (fun k => strS fo pl k ld d r) k))), (0, .ref x)] := (show (nI k) + 1 = nI (k + 1) from nI_1 k) ▸ hl
          have hl : lv_has ls 5 [(3, .int (nI (k + 1))), (4, .int (strS fo pl k ld d r)), (2, .int (strS fo pl (wkN (fun k => strS fo pl k ld d r) (k + 1)) ld d r)), (1, .int (nI (wkN (fun k => strS fo pl k ld d r) k))), (0, .ref x)] := (show strS fo pl (wkN (fun k => strS fo pl k ld d r) k) ld d r = strS fo pl (wkN (fun k => strS fo pl k ld d r) (k + 1)) ld d r from by rw [e]) ▸ hl
          have hl : lv_has ls 5 [(3, .int (nI (k + 1))), (4, .int (strS fo pl k ld d r)), (2, .int (strS fo pl (wkN (fun k => strS fo pl k ld d r) (k + 1)) ld d r)), (1, .int (nI (wkN (fun k => strS fo pl k ld d r) (k + 1)))), (0, .ref x)] := (show nI (wkN (fun k => strS fo pl k ld d r) k) = nI (wkN (fun k => strS fo pl k ld d r) (k + 1)) from by rw [e]) ▸ hl
          exact ih (k + 1) _ (by omega) (by omega) (lv_sub hl [0, 2, 3, 4] rfl)
        · have e : wkN (fun k => strS fo pl k ld d r) (k + 1) = k := by rw [wkN, if_neg (by omega), if_pos (i_nle c_5)]
          refine lv_iload_n hx hb dX2_weakestSide_58 rfl (lv_at hl 1 rfl) ?_
          refine lv_istore_n (lv' := [(1, .int (nI k)), (4, .int (strS fo pl k ld d r)), (3, .int (nI k)), (2, .int (strS fo pl (wkN (fun k => strS fo pl k ld d r) k) ld d r)), (0, .ref x)]) hx hb dX2_weakestSide_59 rfl hl (by decide) rfl (fun ls hl => ?_)
          refine lv_iload hx hb dX2_weakestSide_60 (lv_at hl 1 rfl) ?_
          refine lv_istore_n (lv' := [(2, .int (strS fo pl k ld d r)), (1, .int (nI k)), (4, .int (strS fo pl k ld d r)), (3, .int (nI k)), (0, .ref x)]) hx hb dX2_weakestSide_62 rfl hl (by decide) rfl (fun ls hl => ?_)
          refine lv_iinc (v := (nI k) + 1) (lv' := [(3, .int ((nI k) + 1)), (2, .int (strS fo pl k ld d r)), (1, .int (nI k)), (4, .int (strS fo pl k ld d r)), (0, .ref x)]) hx hb dX2_weakestSide_63 hl (k := 3) rfl rfl (by decide) rfl (fun ls hl => ?_)
          refine lv_goto (tgt := 25) hx hb dX2_weakestSide_66 (by decide) ?_
          have hl : lv_has ls 5 [(3, .int (nI (k + 1))), (2, .int (strS fo pl k ld d r)), (1, .int (nI k)), (4, .int (strS fo pl k ld d r)), (0, .ref x)] := (show (nI k) + 1 = nI (k + 1) from nI_1 k) ▸ hl
          have hl : lv_has ls 5 [(3, .int (nI (k + 1))), (2, .int (strS fo pl (wkN (fun k => strS fo pl k ld d r) (k + 1)) ld d r)), (1, .int (nI k)), (4, .int (strS fo pl k ld d r)), (0, .ref x)] := (show strS fo pl k ld d r = strS fo pl (wkN (fun k => strS fo pl k ld d r) (k + 1)) ld d r from by rw [e]) ▸ hl
          have hl : lv_has ls 5 [(3, .int (nI (k + 1))), (2, .int (strS fo pl (wkN (fun k => strS fo pl k ld d r) (k + 1)) ld d r)), (1, .int (nI (wkN (fun k => strS fo pl k ld d r) (k + 1)))), (4, .int (strS fo pl k ld d r)), (0, .ref x)] := (show nI k = nI (wkN (fun k => strS fo pl k ld d r) (k + 1)) from by rw [e]) ▸ hl
          exact ih (k + 1) _ (by omega) (by omega) (lv_sub hl [0, 1, 2, 4] rfl)
  refine lv_iconst (v := 0) hx hb dX2_weakestSide_0 (by decide) ?_
  refine lv_istore_n (lv' := [(1, .int 0), (0, .ref x)]) hx hb dX2_weakestSide_1 rfl hl (by decide) rfl (fun ls hl => ?_)
  refine lv_aload_n hx hb dX2_weakestSide_2 rfl (lv_at hl 1 rfl) ?_
  refine va_get (D := D) (ci := 2) (v := .ref rg) (C := RX2) (T := TX2) (N := 9) hx hb hts hiX2 hown hK hP 0 rfl rfl 0 (by decide) (hts (.fieldLink RX2 12 "CraneReach" "rig" "LCraneReach$Rig;") (by decide +kernel)) (fun _ h9 => h9) rfl dX2_weakestSide_3 ?_
  refine lv_iconst (v := 0) hx hb dX2_weakestSide_6 (by decide) ?_
  refine lv_aload_n hx hb dX2_weakestSide_7 rfl (lv_at hl 1 rfl) ?_
  refine va_get (D := D) (ci := 2) (v := .int ld) (C := RX2) (T := TX2) (N := 9) hx hb hts hiX2 hown hK hP 0 rfl rfl 5 (by decide) (hts (.fieldLink RX2 48 "CraneReach" "load" "I") (by decide +kernel)) (fun _ h9 => h9) rfl dX2_weakestSide_8 ?_
  refine lv_aload_n hx hb dX2_weakestSide_11 rfl (lv_at hl 1 rfl) ?_
  refine va_get (D := D) (ci := 2) (v := .int (nI d)) (C := RX2) (T := TX2) (N := 9) hx hb hts hiX2 hown hK hP 0 rfl rfl 3 (by decide) (hts (.fieldLink RX2 98 "CraneReach" "direction" "I") (by decide +kernel)) (fun _ h9 => h9) rfl dX2_weakestSide_12 ?_
  refine lv_aload_n hx hb dX2_weakestSide_15 rfl (lv_at hl 1 rfl) ?_
  refine va_get (D := D) (ci := 2) (v := .int (nI r)) (C := RX2) (T := TX2) (N := 9) hx hb hts hiX2 hown hK hP 0 rfl rfl 4 (by decide) (hts (.fieldLink RX2 26 "CraneReach" "reach" "I") (by decide +kernel)) (fun _ h9 => h9) rfl dX2_weakestSide_16 ?_
  have hPc := hP.sub (ws' := [(rg, .inr (1, [.ref ro, .ref rl, .int pl])), (ro, .inl (cI, 4, .inl fo)), (rl, .inl (cI, 28, .inl (sh fl)))]) [1, 2, 3] rfl
  have hDc := hD0.sub (ws' := [(rg, .inr (1, [.ref ro, .ref rl, .int pl])), (ro, .inl (cI, 4, .inl fo)), (rl, .inl (cI, 28, .inl (sh fl)))]) [1, 2, 3] (by decide) rfl
  have hKc := hK.sub (tys' := [(cI, .int)]) [0] rfl
  refine c_callR (va_runV (As := [.int (nI 0), .int ld, .int (nI d), .int (nI r)]) (rest := []) ⟨hx, hb, hml, hown, hts⟩ (k_strain l D L0 cI rg ro rl pl fo (sh fl) 0 d r ld (by decide) hd) (cwV 4 hts gX2_weakestSide_X1_strain rfl rfl rfl (by decide +kernel) ⟨Nat.le_of_ble_eq_true rfl, Nat.le_of_ble_eq_true rfl⟩) ⟨cP_blind, va_recv hKc hPc (ci := 1) (q0 := 0) rfl rfl, cP_of hPc hKc hDc (kE_at hE0 hAL hS)⟩ rfl rfl hl.1 rfl (lv_room (Nat.le_of_ble_eq_true rfl)) dX2_weakestSide_19 ⟨Nat.le_of_ble_eq_true rfl, Nat.le_of_ble_eq_true rfl⟩) ?_
  show W _ _ _ _ _ _ _ _ _ _ _ _ _ _ _ (F0 m 22 ls [.int (strS fo pl 0 ld d r)])
  refine lv_istore_n (lv' := [(2, .int (strS fo pl 0 ld d r)), (1, .int 0), (0, .ref x)]) hx hb dX2_weakestSide_22 rfl hl (by decide) rfl (fun ls hl => ?_)
  refine lv_iconst (v := 1) hx hb dX2_weakestSide_23 (by decide) ?_
  refine lv_istore_n (lv' := [(3, .int 1), (2, .int (strS fo pl 0 ld d r)), (1, .int 0), (0, .ref x)]) hx hb dX2_weakestSide_24 rfl hl (by decide) rfl (fun ls hl => ?_)
  have hl : lv_has ls 5 [(3, .int (nI 1)), (2, .int (strS fo pl 0 ld d r)), (1, .int 0), (0, .ref x)] := (show 1 = nI 1 from rfl) ▸ hl
  have hl : lv_has ls 5 [(3, .int (nI 1)), (2, .int (strS fo pl (wkN (fun k => strS fo pl k ld d r) 1) ld d r)), (1, .int 0), (0, .ref x)] := (show strS fo pl 0 ld d r = strS fo pl (wkN (fun k => strS fo pl k ld d r) 1) ld d r from rfl) ▸ hl
  have hl : lv_has ls 5 [(3, .int (nI 1)), (2, .int (strS fo pl (wkN (fun k => strS fo pl k ld d r) 1) ld d r)), (1, .int (nI (wkN (fun k => strS fo pl k ld d r) 1))), (0, .ref x)] := (show 0 = nI (wkN (fun k => strS fo pl k ld d r) 1) from rfl) ▸ hl
  exact loop 4 1 _ (by omega) (by omega) (lv_sub hl [0, 1, 2, 3] rfl)
set_option maxHeartbeats 4000000 in
set_option maxRecDepth 100000 in
/-- greatestLoad() -/
theorem k_greatestLoad (l : Launch) (D : va_G) (L0 : Nat) (cI : ClassId) (x rg tr pn ro rl d r : Nat) (ld li tl mo pl : Int32) (fo fl : Nat → Int32) (hd : d < 8) (hr : 3 ≤ r ∧ r ≤ 30) : Met l yX2_greatestLoad wsX2_greatestLoad ({ frames := 3, cells := 0, slots := 0, locals := 71 }) (cP L0 D [(cI, .int)] [(x, .inr (2, [.ref rg, .ref tr, .ref pn, .int (nI d), .int (nI r), .int ld, .int li, .int tl, .int mo])), (rg, .inr (1, [.ref ro, .ref rl, .int pl])), (ro, .inl (cI, 4, .inl fo)), (rl, .inl (cI, 28, .inl (sh fl)))] [.ref x]) (cR (some (.int (nI (grN (fun k => safS fo fl pl (nI k) d r) 60))))) 0 0 (fun _ => False) := by
  refine Met.ofW (cc := cX2_greatestLoad) (maxL := 2) (ret := (some .int)) (by decide) rfl ?_
  intro p e s m args below meth c s₁ B hml hv
  obtain ⟨rfl, hP, hK, hD0, hE0⟩ := hv
  have hx := B.exec
  have hb := B.bytes
  have hRt := B.returns
  have hts := atoms_spec (ws := wsX2_greatestLoad) B.pre
  have hown : s.vm.findClass RX2 = some m.cls := findClass_of_methodNamed B.named
  have hlocks := B.notSynchronized
  have hAL : ∀ z9 : Nat, (fun _ : Nat => False) z9 → L0 ≤ z9 := fun z9 h9 => False.elim h9
  generalize hAe : (fun _ : Nat => False) = A at hAL ⊢
  have hS : va_S A s.heap s.heap [] := va_S.rf
  have hiX2 : ∀ w ∈ u_ws RX2 TX2 9, w ∈ wsX2_greatestLoad := by decide +kernel
  have hl := lv_entry ([.ref x]) (n := 2) (Nat.le_of_ble_eq_true rfl)
  rw [lg_entry_eq]
  generalize (lg_sl ([.ref x]) ++ List.replicate (2 - (lg_sl ([.ref x])).length) Slot.unset).toArray = ls at hl ⊢
  have hl : lv_has ls 2 [(0, .ref x)] := hl
  have loop : ∀ (n : Nat)  (ls : Array Slot), n ≤ 60 → grN (fun k => safS fo fl pl (nI k) d r) n = grN (fun k => safS fo fl pl (nI k) d r) 60 → lv_has ls 2 [(1, .int (nI n)), (0, .ref x)] → W p l e (headSpec wsX2_greatestLoad ({ frames := 3, cells := 0, slots := 0, locals := 71 })).room s m ([.ref x]).toArray below meth c s.heap [] 0 0 (MQ below (cR (some (.int (nI (grN (fun k => safS fo fl pl (nI k) d r) 60))))) ([.ref x]).toArray s 0 0 A) (F0 m 3 ls []) := by
    intro n
    induction n with
    | zero =>
      intro  ls hn hG hl
      refine lv_iload_n hx hb dX2_greatestLoad_3 rfl (lv_at hl 0 rfl) ?_
      refine lv_if_le (tgt := 34) hx hb dX2_greatestLoad_4 (by decide) (fun _ => ?_) (fun c_6 => absurd (by decide) c_6)
      refine lv_iconst (v := 0) hx hb dX2_greatestLoad_34 (by decide) ?_
      exact W.iret (v := 0) hx hb hRt (fun t ht hW => ⟨by rw [← hG]; rfl, ht⟩) hS.2.2 dX2_greatestLoad_35
    | succ n ih =>
      intro  ls hn hG hl
      refine lv_iload_n hx hb dX2_greatestLoad_3 rfl (lv_at hl 0 rfl) ?_
      refine lv_if_le (tgt := 34) hx hb dX2_greatestLoad_4 (by decide) (fun c_7 => absurd c_7 (nI_nle (Nat.succ_pos n) (by omega))) (fun _ => ?_)
      refine lv_aload_n hx hb dX2_greatestLoad_7 rfl (lv_at hl 1 rfl) ?_
      refine va_get (D := D) (ci := 2) (v := .ref rg) (C := RX2) (T := TX2) (N := 9) hx hb hts hiX2 hown hK hP 0 rfl rfl 0 (by decide) (hts (.fieldLink RX2 12 "CraneReach" "rig" "LCraneReach$Rig;") (by decide +kernel)) (fun _ h9 => h9) rfl dX2_greatestLoad_8 ?_
      refine lv_iload_n hx hb dX2_greatestLoad_11 rfl (lv_at hl 0 rfl) ?_
      refine lv_aload_n hx hb dX2_greatestLoad_12 rfl (lv_at hl 1 rfl) ?_
      refine va_get (D := D) (ci := 2) (v := .int (nI d)) (C := RX2) (T := TX2) (N := 9) hx hb hts hiX2 hown hK hP 0 rfl rfl 3 (by decide) (hts (.fieldLink RX2 98 "CraneReach" "direction" "I") (by decide +kernel)) (fun _ h9 => h9) rfl dX2_greatestLoad_13 ?_
      refine lv_aload_n hx hb dX2_greatestLoad_16 rfl (lv_at hl 1 rfl) ?_
      refine va_get (D := D) (ci := 2) (v := .int (nI r)) (C := RX2) (T := TX2) (N := 9) hx hb hts hiX2 hown hK hP 0 rfl rfl 4 (by decide) (hts (.fieldLink RX2 26 "CraneReach" "reach" "I") (by decide +kernel)) (fun _ h9 => h9) rfl dX2_greatestLoad_17 ?_
      have hPc := hP.sub (ws' := [(rg, .inr (1, [.ref ro, .ref rl, .int pl])), (ro, .inl (cI, 4, .inl fo)), (rl, .inl (cI, 28, .inl (sh fl)))]) [1, 2, 3] rfl
      have hDc := hD0.sub (ws' := [(rg, .inr (1, [.ref ro, .ref rl, .int pl])), (ro, .inl (cI, 4, .inl fo)), (rl, .inl (cI, 28, .inl (sh fl)))]) [1, 2, 3] (by decide) rfl
      have hKc := hK.sub (tys' := [(cI, .int)]) [0] rfl
      refine c_callR (va_runV (As := [.int (nI (n + 1)), .int (nI d), .int (nI r)]) (rest := []) ⟨hx, hb, hml, hown, hts⟩ (k_isSafe l D L0 cI rg ro rl pl fo fl d r (nI (n + 1)) hd hr) (cwV 3 hts gX2_greatestLoad_X1_isSafe rfl rfl rfl (by decide +kernel) ⟨Nat.le_of_ble_eq_true rfl, Nat.le_of_ble_eq_true rfl⟩) ⟨cP_blind, va_recv hKc hPc (ci := 1) (q0 := 0) rfl rfl, cP_of hPc hKc hDc (kE_at hE0 hAL hS)⟩ rfl rfl hl.1 rfl (lv_room (Nat.le_of_ble_eq_true rfl)) dX2_greatestLoad_20 ⟨Nat.le_of_ble_eq_true rfl, Nat.le_of_ble_eq_true rfl⟩) ?_
      show W _ _ _ _ _ _ _ _ _ _ _ _ _ _ _ (F0 m 23 ls [.int (bI (safS fo fl pl (nI (n + 1)) d r))])
      obtain ⟨b0, hb0⟩ : ∃ b0 : Bool, b0 = safS fo fl pl (nI (n + 1)) d r := ⟨_, rfl⟩
      refine c_top (show bI (safS fo fl pl (nI (n + 1)) d r) = bI b0 from by rw [hb0]) ?_
      refine lv_if_eq (tgt := 28) hx hb dX2_greatestLoad_23 (by decide) (fun c_8 => ?_) (fun c_8 => ?_)
      · have e : safS fo fl pl (nI (n + 1)) d r = false := by rw [← hb0]; cases b0 with | false => rfl | true => exact absurd c_8 (by decide)
        refine lv_iinc (v := (nI (n + 1)) + (-1)) (lv' := [(1, .int ((nI (n + 1)) + (-1))), (0, .ref x)]) hx hb dX2_greatestLoad_28 hl (k := 0) rfl rfl (by decide) rfl (fun ls hl => ?_)
        refine lv_goto (tgt := 3) hx hb dX2_greatestLoad_31 (by decide) ?_
        have hl : lv_has ls 2 [(1, .int (nI n)), (0, .ref x)] := (show (nI (n + 1)) + (-1) = nI n from pk_m1 n) ▸ hl
        exact ih  _ (by omega) (by rw [← hG, grN, if_neg (by rw [e]; decide)]) (lv_sub hl [0, 1] rfl)
      · have e : safS fo fl pl (nI (n + 1)) d r = true := by rw [← hb0]; cases b0 with | true => rfl | false => exact absurd rfl c_8
        refine lv_iload_n hx hb dX2_greatestLoad_26 rfl (lv_at hl 0 rfl) ?_
        exact W.iret (v := (nI (n + 1))) hx hb hRt (fun t ht hW => ⟨by rw [← hG, grN, if_pos e], ht⟩) hS.2.2 dX2_greatestLoad_27
  refine lv_bipush (v := 60) hx hb dX2_greatestLoad_0 (by decide) ?_
  refine lv_istore_n (lv' := [(1, .int 60), (0, .ref x)]) hx hb dX2_greatestLoad_2 rfl hl (by decide) rfl (fun ls hl => ?_)
  have hl : lv_has ls 2 [(1, .int (nI 60)), (0, .ref x)] := (show 60 = nI 60 from rfl) ▸ hl
  exact loop 60  _ (by omega) rfl (lv_sub hl [0, 1] rfl)
set_option maxHeartbeats 4000000 in
set_option maxRecDepth 100000 in
/-- farthestReach(load, direction) -/
theorem k_farthestReach (l : Launch) (hfl : l.stackTraces = false) (D : va_G) (L0 : Nat) (cI : ClassId) (x rg tr pn ro rl d r : Nat) (ld li tl mo pl : Int32) (fo fl : Nat → Int32) (u v : Int32) : vx_Met l yX2_farthestReach wsX2_farthestReach ({ frames := 7, cells := 2, slots := 12, locals := 103 }) (cP L0 D [(cI, .int)] [(x, .inr (2, [.ref rg, .ref tr, .ref pn, .int (nI d), .int (nI r), .int ld, .int li, .int tl, .int mo])), (rg, .inr (1, [.ref ro, .ref rl, .int pl])), (ro, .inl (cI, 4, .inl fo)), (rl, .inl (cI, 28, .inl (sh fl)))] [.ref x, .int u, .int v]) (cRP (some (.int (faI (faN (fun k => safS fo fl pl u v.toNatClampNeg k) 28 3)))) (k2 (inR v 0 7) (inR u 0 60) = 0)) (cX (fun E => (E = xIOB ∧ k2 (inR v 0 7) (inR u 0 60) = 1) ∨ (E = xIAE ∧ k2 (inR v 0 7) (inR u 0 60) = 2)) (fun _ => True) (fun _ => False)) 2 12 (fun _ => False) := by
  refine vx_ofW (cc := cX2_farthestReach) (maxL := 5) (ret := (some .int)) (by decide) rfl ?_
  intro p e s m args below meth c s₁ B hml hxt hv
  obtain ⟨rfl, hP, hK, hD0, hE0⟩ := hv
  have hx := B.exec
  have hb := B.bytes
  have hRt := B.returns
  have hts := atoms_spec (ws := wsX2_farthestReach) B.pre
  have hown : s.vm.findClass RX2 = some m.cls := findClass_of_methodNamed B.named
  have hlocks := B.notSynchronized
  have hAL : ∀ z9 : Nat, (fun _ : Nat => False) z9 → L0 ≤ z9 := fun z9 h9 => False.elim h9
  generalize hAe : (fun _ : Nat => False) = A at hAL ⊢
  have hS : va_S A s.heap s.heap [] := va_S.rf
  have hiX2 : ∀ w ∈ u_ws RX2 TX2 9, w ∈ wsX2_farthestReach := by decide +kernel
  have hl := lv_entry ([.ref x, .int u, .int v]) (n := 5) (Nat.le_of_ble_eq_true rfl)
  rw [lg_entry_eq]
  generalize (lg_sl ([.ref x, .int u, .int v]) ++ List.replicate (5 - (lg_sl ([.ref x, .int u, .int v])).length) Slot.unset).toArray = ls at hl ⊢
  have hl : lv_has ls 5 [(0, .ref x), (1, .int u), (2, .int v)] := hl
  refine lv_iload_n hx hb dX2_farthestReach_0 rfl (lv_at hl 2 rfl) ?_
  have hPc := hP.sub (ws' := []) [] rfl
  have hDc := hD0.sub (ws' := []) [] (by decide) rfl
  have hKc := hK.sub (tys' := []) [] rfl
  refine c_callT (vx_runS (As := [.int v]) (rest := []) ⟨hx, hb, hml, hown, hts⟩ (k_requireDirection l hfl D L0 v) (va_cwS 1 hts gX2_farthestReach_X2_requireDirection rfl rfl rfl (by decide +kernel) ⟨Nat.le_of_ble_eq_true rfl, Nat.le_of_ble_eq_true rfl⟩) ⟨cP_blind, cP_of hPc hKc hDc (kE_at hE0 hAL hS)⟩ rfl rfl hl.1 rfl (lv_room (Nat.le_of_ble_eq_true rfl)) dX2_farthestReach_1 ⟨Nat.le_of_ble_eq_true rfl, Nat.le_of_ble_eq_true rfl⟩) hS (fun E ce q9 H1 hE hz1 hk1 hS hce hcv hcl => ?_) (fun hp1 => ?_)
  · obtain ⟨rfl, hE⟩ := hE
    exact vx_out (fun z hz => (hxt z hz).elim) hlocks hce hcv hcl (fun t ht hvm => ⟨⟨Or.inl ⟨rfl, k2_n1 hE⟩, trivial⟩, hS.F ht⟩) (fun z hz => hS.2.2 z hz) (Nat.le_of_ble_eq_true rfl) (Nat.le_of_ble_eq_true rfl)
  · show W _ _ _ _ _ _ _ _ _ _ _ _ _ _ _ (F0 m 4 ls [])
    refine lv_iload_n hx hb dX2_farthestReach_4 rfl (lv_at hl 1 rfl) ?_
    have hPc := hP.sub (ws' := []) [] rfl
    have hDc := hD0.sub (ws' := []) [] (by decide) rfl
    have hKc := hK.sub (tys' := []) [] rfl
    refine c_callT (vx_runS (As := [.int u]) (rest := []) ⟨hx, hb, hml, hown, hts⟩ (k_requireLoad l hfl D L0 u) (va_cwS 1 hts gX2_farthestReach_X2_requireLoad rfl rfl rfl (by decide +kernel) ⟨Nat.le_of_ble_eq_true rfl, Nat.le_of_ble_eq_true rfl⟩) ⟨cP_blind, cP_of hPc hKc hDc (kE_at hE0 hAL hS)⟩ rfl rfl hl.1 rfl (lv_room (Nat.le_of_ble_eq_true rfl)) dX2_farthestReach_5 ⟨Nat.le_of_ble_eq_true rfl, Nat.le_of_ble_eq_true rfl⟩) hS (fun E ce q9 H1 hE hz1 hk1 hS hce hcv hcl => ?_) (fun hp2 => ?_)
    · obtain ⟨rfl, hE⟩ := hE
      exact vx_out (fun z hz => (hxt z hz).elim) hlocks hce hcv hcl (fun t ht hvm => ⟨⟨Or.inr ⟨rfl, k2_n2 hp1 hE⟩, trivial⟩, hS.F ht⟩) (fun z hz => hS.2.2 z hz) (Nat.le_of_ble_eq_true rfl) (Nat.le_of_ble_eq_true rfl)
    · show W _ _ _ _ _ _ _ _ _ _ _ _ _ _ _ (F0 m 8 ls [])
      have hk0 : k2 (inR v 0 7) (inR u 0 60) = 0 := k2_yes hp1 hp2
      obtain ⟨kv, hkv, hv⟩ := inR_nI (n := 7) (by decide) hp1
      have hl : lv_has ls 5 [(0, .ref x), (1, .int u), (2, .int (nI kv))] := (show v = nI kv from hv) ▸ hl
      have hvn : v.toNatClampNeg = kv := by rw [hv, nI_clamp (by omega)]
      have loop : ∀ (n : Nat) (i : Nat) (ls : Array Slot), i + n = 31 → 3 ≤ i → faN (fun k => safS fo fl pl u kv k) n i = faN (fun k => safS fo fl pl u v.toNatClampNeg k) 28 3 → lv_has ls 5 [(4, .int (nI i)), (3, .int (faI i)), (0, .ref x), (1, .int u), (2, .int (nI kv))] → W p l e (headSpec wsX2_farthestReach ({ frames := 7, cells := 2, slots := 12, locals := 103 })).room s m ([.ref x, .int u, .int v]).toArray below meth c s.heap [] (0 + 1 + 1) (0 + 6 + 6) (vx_MQ below (cRP (some (.int (faI (faN (fun k => safS fo fl pl u v.toNatClampNeg k) 28 3)))) (k2 (inR v 0 7) (inR u 0 60) = 0)) (cX (fun E => (E = xIOB ∧ k2 (inR v 0 7) (inR u 0 60) = 1) ∨ (E = xIAE ∧ k2 (inR v 0 7) (inR u 0 60) = 2)) (fun _ => True) A) ([.ref x, .int u, .int v]).toArray s 2 12 A) (F0 m 13 ls []) := by
        intro n
        induction n with
        | zero =>
          intro i ls hn h3 hG hl
          have hi : i = 31 := by omega
          rw [hi] at hl hG
          refine lv_iload hx hb dX2_farthestReach_13 (lv_at hl 0 rfl) ?_
          refine lv_bipush (v := 30) hx hb dX2_farthestReach_15 (by decide) ?_
          refine lv_icmp_gt (tgt := 43) hx hb dX2_farthestReach_17 (by decide) (fun _ => ?_) (fun c_9 => absurd (by decide) c_9)
          refine lv_iload_n hx hb dX2_farthestReach_43 rfl (lv_at hl 1 rfl) ?_
          refine vx_ret ?_
          refine W.widen (k := 2) (n := 12) (Nat.le_of_ble_eq_true rfl) (Nat.le_of_ble_eq_true rfl) ?_
          exact W.iret (v := (faI 31)) hx hb hRt (fun t ht hW => ⟨⟨by rw [← hG]; rfl, ht⟩, hk0⟩) hS.2.2 dX2_farthestReach_44
        | succ n ih =>
          intro i ls hn h3 hG hl
          refine lv_iload hx hb dX2_farthestReach_13 (lv_at hl 0 rfl) ?_
          refine lv_bipush (v := 30) hx hb dX2_farthestReach_15 (by decide) ?_
          refine lv_icmp_gt (tgt := 43) hx hb dX2_farthestReach_17 (by decide) (fun c_10 => absurd c_10 (Int32.not_lt.mpr (nI_le (b := 30) (by omega) (by decide)))) (fun _ => ?_)
          refine lv_aload_n hx hb dX2_farthestReach_20 rfl (lv_at hl 2 rfl) ?_
          refine va_get (D := D) (ci := 2) (v := .ref rg) (C := RX2) (T := TX2) (N := 9) hx hb hts hiX2 hown hK hP 0 rfl rfl 0 (by decide) (hts (.fieldLink RX2 12 "CraneReach" "rig" "LCraneReach$Rig;") (by decide +kernel)) (fun _ h9 => h9) rfl dX2_farthestReach_21 ?_
          refine lv_iload_n hx hb dX2_farthestReach_24 rfl (lv_at hl 3 rfl) ?_
          refine lv_iload_n hx hb dX2_farthestReach_25 rfl (lv_at hl 4 rfl) ?_
          refine lv_iload hx hb dX2_farthestReach_26 (lv_at hl 0 rfl) ?_
          have hPc := hP.sub (ws' := [(rg, .inr (1, [.ref ro, .ref rl, .int pl])), (ro, .inl (cI, 4, .inl fo)), (rl, .inl (cI, 28, .inl (sh fl)))]) [1, 2, 3] rfl
          have hDc := hD0.sub (ws' := [(rg, .inr (1, [.ref ro, .ref rl, .int pl])), (ro, .inl (cI, 4, .inl fo)), (rl, .inl (cI, 28, .inl (sh fl)))]) [1, 2, 3] (by decide) rfl
          have hKc := hK.sub (tys' := [(cI, .int)]) [0] rfl
          refine c_callR (va_runV (As := [.int u, .int (nI kv), .int (nI i)]) (rest := []) ⟨hx, hb, hml, hown, hts⟩ (k_isSafe l D L0 cI rg ro rl pl fo fl kv i u (by omega) ⟨h3, by omega⟩) (cwV 3 hts gX2_farthestReach_X1_isSafe rfl rfl rfl (by decide +kernel) ⟨Nat.le_of_ble_eq_true rfl, Nat.le_of_ble_eq_true rfl⟩) ⟨cP_blind, va_recv hKc hPc (ci := 1) (q0 := 0) rfl rfl, cP_of hPc hKc hDc (kE_at hE0 hAL hS)⟩ rfl rfl hl.1 rfl (lv_room (Nat.le_of_ble_eq_true rfl)) dX2_farthestReach_28 ⟨Nat.le_of_ble_eq_true rfl, Nat.le_of_ble_eq_true rfl⟩) ?_
          show W _ _ _ _ _ _ _ _ _ _ _ _ _ _ _ (F0 m 31 ls [.int (bI (safS fo fl pl u kv i))])
          obtain ⟨b0, hb0⟩ : ∃ b0 : Bool, b0 = safS fo fl pl u kv i := ⟨_, rfl⟩
          refine c_top (show bI (safS fo fl pl u kv i) = bI b0 from by rw [hb0]) ?_
          refine lv_if_eq (tgt := 43) hx hb dX2_farthestReach_31 (by decide) (fun c_11 => ?_) (fun c_11 => ?_)
          · have e : safS fo fl pl u kv i = false := by rw [← hb0]; cases b0 with | false => rfl | true => exact absurd c_11 (by decide)
            refine lv_iload_n hx hb dX2_farthestReach_43 rfl (lv_at hl 1 rfl) ?_
            refine vx_ret ?_
            refine W.widen (k := 2) (n := 12) (Nat.le_of_ble_eq_true rfl) (Nat.le_of_ble_eq_true rfl) ?_
            exact W.iret (v := (faI i)) hx hb hRt (fun t ht hW => ⟨⟨by rw [← hG, faN, if_neg (by rw [e]; decide)], ht⟩, hk0⟩) hS.2.2 dX2_farthestReach_44
          · have e : safS fo fl pl u kv i = true := by rw [← hb0]; cases b0 with | true => rfl | false => exact absurd rfl c_11
            refine lv_iload hx hb dX2_farthestReach_34 (lv_at hl 0 rfl) ?_
            refine lv_istore_n (lv' := [(3, .int (nI i)), (4, .int (nI i)), (0, .ref x), (1, .int u), (2, .int (nI kv))]) hx hb dX2_farthestReach_36 rfl hl (by decide) rfl (fun ls hl => ?_)
            refine lv_iinc (v := (nI i) + 1) (lv' := [(4, .int ((nI i) + 1)), (3, .int (nI i)), (0, .ref x), (1, .int u), (2, .int (nI kv))]) hx hb dX2_farthestReach_37 hl (k := 1) rfl rfl (by decide) rfl (fun ls hl => ?_)
            refine lv_goto (tgt := 13) hx hb dX2_farthestReach_40 (by decide) ?_
            have hl : lv_has ls 5 [(4, .int (nI (i + 1))), (3, .int (nI i)), (0, .ref x), (1, .int u), (2, .int (nI kv))] := (show (nI i) + 1 = nI (i + 1) from nI_1 i) ▸ hl
            have hl : lv_has ls 5 [(4, .int (nI (i + 1))), (3, .int (faI (i + 1))), (0, .ref x), (1, .int u), (2, .int (nI kv))] := (show nI i = faI (i + 1) from by rw [faI, if_neg (by omega)]; rfl) ▸ hl
            exact ih (i + 1) _ (by omega) (by omega) (by rw [← hG, faN, if_pos e]) (lv_sub hl [0, 1, 2, 3, 4] rfl)
      refine lv_iconst (v := -1) hx hb dX2_farthestReach_8 (by decide) ?_
      refine lv_istore_n (lv' := [(3, .int (-1)), (0, .ref x), (1, .int u), (2, .int (nI kv))]) hx hb dX2_farthestReach_9 rfl hl (by decide) rfl (fun ls hl => ?_)
      refine lv_iconst (v := 3) hx hb dX2_farthestReach_10 (by decide) ?_
      refine lv_istore (lv' := [(4, .int 3), (3, .int (-1)), (0, .ref x), (1, .int u), (2, .int (nI kv))]) hx hb dX2_farthestReach_11 hl (by decide) rfl (fun ls hl => ?_)
      have hl : lv_has ls 5 [(4, .int (nI 3)), (3, .int (-1)), (0, .ref x), (1, .int u), (2, .int (nI kv))] := (show 3 = nI 3 from rfl) ▸ hl
      have hl : lv_has ls 5 [(4, .int (nI 3)), (3, .int (faI 3)), (0, .ref x), (1, .int u), (2, .int (nI kv))] := (show (-1) = faI 3 from rfl) ▸ hl
      exact loop 28 3 _ (by omega) (by omega) (by rw [hvn]) (lv_sub hl [0, 1, 2, 3, 4] rfl)
set_option maxHeartbeats 4000000 in
set_option maxRecDepth 100000 in
/-- safeDirections(load, reach) -/
theorem k_safeDirections (l : Launch) (hfl : l.stackTraces = false) (D : va_G) (L0 : Nat) (cI : ClassId) (x rg tr pn ro rl d r : Nat) (ld li tl mo pl : Int32) (fo fl : Nat → Int32) (u z : Int32) : vx_Met l yX2_safeDirections wsX2_safeDirections ({ frames := 7, cells := 2, slots := 12, locals := 103 }) (cP L0 D [(cI, .int)] [(x, .inr (2, [.ref rg, .ref tr, .ref pn, .int (nI d), .int (nI r), .int ld, .int li, .int tl, .int mo])), (rg, .inr (1, [.ref ro, .ref rl, .int pl])), (ro, .inl (cI, 4, .inl fo)), (rl, .inl (cI, 28, .inl (sh fl)))] [.ref x, .int u, .int z]) (cRP (some (.int (nI (fb_ct (fun k => safS fo fl pl u k z.toNatClampNeg) 8)))) (k1 (inR u 0 60 ∧ inR z 3 30) = 0)) (cX (fun E => E = xIAE ∧ k1 (inR u 0 60 ∧ inR z 3 30) = 1) (fun _ => True) (fun _ => False)) 2 12 (fun _ => False) := by
  refine vx_ofW (cc := cX2_safeDirections) (maxL := 5) (ret := (some .int)) (by decide) rfl ?_
  intro p e s m args below meth c s₁ B hml hxt hv
  obtain ⟨rfl, hP, hK, hD0, hE0⟩ := hv
  have hx := B.exec
  have hb := B.bytes
  have hRt := B.returns
  have hts := atoms_spec (ws := wsX2_safeDirections) B.pre
  have hown : s.vm.findClass RX2 = some m.cls := findClass_of_methodNamed B.named
  have hlocks := B.notSynchronized
  have hAL : ∀ z9 : Nat, (fun _ : Nat => False) z9 → L0 ≤ z9 := fun z9 h9 => False.elim h9
  generalize hAe : (fun _ : Nat => False) = A at hAL ⊢
  have hS : va_S A s.heap s.heap [] := va_S.rf
  have hiX2 : ∀ w ∈ u_ws RX2 TX2 9, w ∈ wsX2_safeDirections := by decide +kernel
  have hl := lv_entry ([.ref x, .int u, .int z]) (n := 5) (Nat.le_of_ble_eq_true rfl)
  rw [lg_entry_eq]
  generalize (lg_sl ([.ref x, .int u, .int z]) ++ List.replicate (5 - (lg_sl ([.ref x, .int u, .int z])).length) Slot.unset).toArray = ls at hl ⊢
  have hl : lv_has ls 5 [(0, .ref x), (1, .int u), (2, .int z)] := hl
  refine lv_iload_n hx hb dX2_safeDirections_0 rfl (lv_at hl 1 rfl) ?_
  have hPc := hP.sub (ws' := []) [] rfl
  have hDc := hD0.sub (ws' := []) [] (by decide) rfl
  have hKc := hK.sub (tys' := []) [] rfl
  refine c_callT (vx_runS (As := [.int u]) (rest := []) ⟨hx, hb, hml, hown, hts⟩ (k_requireLoad l hfl D L0 u) (va_cwS 1 hts gX2_safeDirections_X2_requireLoad rfl rfl rfl (by decide +kernel) ⟨Nat.le_of_ble_eq_true rfl, Nat.le_of_ble_eq_true rfl⟩) ⟨cP_blind, cP_of hPc hKc hDc (kE_at hE0 hAL hS)⟩ rfl rfl hl.1 rfl (lv_room (Nat.le_of_ble_eq_true rfl)) dX2_safeDirections_1 ⟨Nat.le_of_ble_eq_true rfl, Nat.le_of_ble_eq_true rfl⟩) hS (fun E ce q9 H1 hE hz1 hk1 hS hce hcv hcl => ?_) (fun hp1 => ?_)
  · obtain ⟨rfl, hE⟩ := hE
    exact vx_out (fun z hz => (hxt z hz).elim) hlocks hce hcv hcl (fun t ht hvm => ⟨⟨⟨rfl, k1_no (fun q => hE q.1)⟩, trivial⟩, hS.F ht⟩) (fun z hz => hS.2.2 z hz) (Nat.le_of_ble_eq_true rfl) (Nat.le_of_ble_eq_true rfl)
  · show W _ _ _ _ _ _ _ _ _ _ _ _ _ _ _ (F0 m 4 ls [])
    refine lv_iload_n hx hb dX2_safeDirections_4 rfl (lv_at hl 2 rfl) ?_
    have hPc := hP.sub (ws' := []) [] rfl
    have hDc := hD0.sub (ws' := []) [] (by decide) rfl
    have hKc := hK.sub (tys' := []) [] rfl
    refine c_callT (vx_runS (As := [.int z]) (rest := []) ⟨hx, hb, hml, hown, hts⟩ (k_requireReach l hfl D L0 z) (va_cwS 1 hts gX2_safeDirections_X2_requireReach rfl rfl rfl (by decide +kernel) ⟨Nat.le_of_ble_eq_true rfl, Nat.le_of_ble_eq_true rfl⟩) ⟨cP_blind, cP_of hPc hKc hDc (kE_at hE0 hAL hS)⟩ rfl rfl hl.1 rfl (lv_room (Nat.le_of_ble_eq_true rfl)) dX2_safeDirections_5 ⟨Nat.le_of_ble_eq_true rfl, Nat.le_of_ble_eq_true rfl⟩) hS (fun E ce q9 H1 hE hz1 hk1 hS hce hcv hcl => ?_) (fun hp2 => ?_)
    · obtain ⟨rfl, hE⟩ := hE
      exact vx_out (fun z hz => (hxt z hz).elim) hlocks hce hcv hcl (fun t ht hvm => ⟨⟨⟨rfl, k1_no (fun q => hE q.2)⟩, trivial⟩, hS.F ht⟩) (fun z hz => hS.2.2 z hz) (Nat.le_of_ble_eq_true rfl) (Nat.le_of_ble_eq_true rfl)
    · show W _ _ _ _ _ _ _ _ _ _ _ _ _ _ _ (F0 m 8 ls [])
      have hk0 : k1 (inR u 0 60 ∧ inR z 3 30) = 0 := k1_yes ⟨hp1, hp2⟩
      obtain ⟨kz, hkz, hz⟩ := inR_n3 (n := 30) (by decide) hp2
      have hl : lv_has ls 5 [(0, .ref x), (1, .int u), (2, .int (nI kz))] := (show z = nI kz from hz) ▸ hl
      have hzn : z.toNatClampNeg = kz := by rw [hz, nI_clamp (by omega)]
      have loop : ∀ (n : Nat) (i : Nat) (ls : Array Slot), i + n = 8 → lv_has ls 5 [(4, .int (nI i)), (3, .int (nI (fb_ct (fun k => safS fo fl pl u k kz) i))), (0, .ref x), (1, .int u), (2, .int (nI kz))] → W p l e (headSpec wsX2_safeDirections ({ frames := 7, cells := 2, slots := 12, locals := 103 })).room s m ([.ref x, .int u, .int z]).toArray below meth c s.heap [] (0 + 1 + 1) (0 + 6 + 6) (vx_MQ below (cRP (some (.int (nI (fb_ct (fun k => safS fo fl pl u k z.toNatClampNeg) 8)))) (k1 (inR u 0 60 ∧ inR z 3 30) = 0)) (cX (fun E => E = xIAE ∧ k1 (inR u 0 60 ∧ inR z 3 30) = 1) (fun _ => True) A) ([.ref x, .int u, .int z]).toArray s 2 12 A) (F0 m 13 ls []) := by
        intro n
        induction n with
        | zero =>
          intro i ls hn hl
          have hi : i = 8 := by omega
          rw [hi] at hl
          refine lv_iload hx hb dX2_safeDirections_13 (lv_at hl 0 rfl) ?_
          refine lv_bipush (v := 8) hx hb dX2_safeDirections_15 (by decide) ?_
          refine lv_icmp_ge (tgt := 43) hx hb dX2_safeDirections_17 (by decide) (fun _ => ?_) (fun c_12 => absurd (by decide) c_12)
          refine lv_iload_n hx hb dX2_safeDirections_43 rfl (lv_at hl 1 rfl) ?_
          refine vx_ret ?_
          refine W.widen (k := 2) (n := 12) (Nat.le_of_ble_eq_true rfl) (Nat.le_of_ble_eq_true rfl) ?_
          exact W.iret (v := (nI (fb_ct (fun k => safS fo fl pl u k kz) 8))) hx hb hRt (fun t ht hW => ⟨⟨by rw [hzn], ht⟩, hk0⟩) hS.2.2 dX2_safeDirections_44
        | succ n ih =>
          intro i ls hn hl
          refine lv_iload hx hb dX2_safeDirections_13 (lv_at hl 0 rfl) ?_
          refine lv_bipush (v := 8) hx hb dX2_safeDirections_15 (by decide) ?_
          refine lv_icmp_ge (tgt := 43) hx hb dX2_safeDirections_17 (by decide) (fun c_13 => absurd c_13 (nI_ge (b := 8) (by omega) (by decide))) (fun _ => ?_)
          refine lv_aload_n hx hb dX2_safeDirections_20 rfl (lv_at hl 2 rfl) ?_
          refine va_get (D := D) (ci := 2) (v := .ref rg) (C := RX2) (T := TX2) (N := 9) hx hb hts hiX2 hown hK hP 0 rfl rfl 0 (by decide) (hts (.fieldLink RX2 12 "CraneReach" "rig" "LCraneReach$Rig;") (by decide +kernel)) (fun _ h9 => h9) rfl dX2_safeDirections_21 ?_
          refine lv_iload_n hx hb dX2_safeDirections_24 rfl (lv_at hl 3 rfl) ?_
          refine lv_iload hx hb dX2_safeDirections_25 (lv_at hl 0 rfl) ?_
          refine lv_iload_n hx hb dX2_safeDirections_27 rfl (lv_at hl 4 rfl) ?_
          have hPc := hP.sub (ws' := [(rg, .inr (1, [.ref ro, .ref rl, .int pl])), (ro, .inl (cI, 4, .inl fo)), (rl, .inl (cI, 28, .inl (sh fl)))]) [1, 2, 3] rfl
          have hDc := hD0.sub (ws' := [(rg, .inr (1, [.ref ro, .ref rl, .int pl])), (ro, .inl (cI, 4, .inl fo)), (rl, .inl (cI, 28, .inl (sh fl)))]) [1, 2, 3] (by decide) rfl
          have hKc := hK.sub (tys' := [(cI, .int)]) [0] rfl
          refine c_callR (va_runV (As := [.int u, .int (nI i), .int (nI kz)]) (rest := []) ⟨hx, hb, hml, hown, hts⟩ (k_isSafe l D L0 cI rg ro rl pl fo fl i kz u (by omega) hkz) (cwV 3 hts gX2_safeDirections_X1_isSafe rfl rfl rfl (by decide +kernel) ⟨Nat.le_of_ble_eq_true rfl, Nat.le_of_ble_eq_true rfl⟩) ⟨cP_blind, va_recv hKc hPc (ci := 1) (q0 := 0) rfl rfl, cP_of hPc hKc hDc (kE_at hE0 hAL hS)⟩ rfl rfl hl.1 rfl (lv_room (Nat.le_of_ble_eq_true rfl)) dX2_safeDirections_28 ⟨Nat.le_of_ble_eq_true rfl, Nat.le_of_ble_eq_true rfl⟩) ?_
          show W _ _ _ _ _ _ _ _ _ _ _ _ _ _ _ (F0 m 31 ls [.int (bI (safS fo fl pl u i kz))])
          obtain ⟨b0, hb0⟩ : ∃ b0 : Bool, b0 = safS fo fl pl u i kz := ⟨_, rfl⟩
          refine c_top (show bI (safS fo fl pl u i kz) = bI b0 from by rw [hb0]) ?_
          refine lv_if_eq (tgt := 37) hx hb dX2_safeDirections_31 (by decide) (fun c_14 => ?_) (fun c_14 => ?_)
          · have e : safS fo fl pl u i kz = false := by rw [← hb0]; cases b0 with | false => rfl | true => exact absurd c_14 (by decide)
            refine lv_iinc (v := (nI i) + 1) (lv' := [(4, .int ((nI i) + 1)), (3, .int (nI (fb_ct (fun k => safS fo fl pl u k kz) i))), (0, .ref x), (1, .int u), (2, .int (nI kz))]) hx hb dX2_safeDirections_37 hl (k := 0) rfl rfl (by decide) rfl (fun ls hl => ?_)
            refine lv_goto (tgt := 13) hx hb dX2_safeDirections_40 (by decide) ?_
            have hl : lv_has ls 5 [(4, .int (nI (i + 1))), (3, .int (nI (fb_ct (fun k => safS fo fl pl u k kz) i))), (0, .ref x), (1, .int u), (2, .int (nI kz))] := (show (nI i) + 1 = nI (i + 1) from nI_1 i) ▸ hl
            have hl : lv_has ls 5 [(4, .int (nI (i + 1))), (3, .int (nI (fb_ct (fun k => safS fo fl pl u k kz) (i + 1)))), (0, .ref x), (1, .int u), (2, .int (nI kz))] := (show nI (fb_ct (fun k => safS fo fl pl u k kz) i) = nI (fb_ct (fun k => safS fo fl pl u k kz) (i + 1)) from by rw [fb_ct_succ, e]; rfl) ▸ hl
            exact ih (i + 1) _ (by omega) (lv_sub hl [0, 1, 2, 3, 4] rfl)
          · have e : safS fo fl pl u i kz = true := by rw [← hb0]; cases b0 with | true => rfl | false => exact absurd rfl c_14
            refine lv_iinc (v := (nI (fb_ct (fun k => safS fo fl pl u k kz) i)) + 1) (lv' := [(3, .int ((nI (fb_ct (fun k => safS fo fl pl u k kz) i)) + 1)), (4, .int (nI i)), (0, .ref x), (1, .int u), (2, .int (nI kz))]) hx hb dX2_safeDirections_34 hl (k := 1) rfl rfl (by decide) rfl (fun ls hl => ?_)
            refine lv_iinc (v := (nI i) + 1) (lv' := [(4, .int ((nI i) + 1)), (3, .int ((nI (fb_ct (fun k => safS fo fl pl u k kz) i)) + 1)), (0, .ref x), (1, .int u), (2, .int (nI kz))]) hx hb dX2_safeDirections_37 hl (k := 1) rfl rfl (by decide) rfl (fun ls hl => ?_)
            refine lv_goto (tgt := 13) hx hb dX2_safeDirections_40 (by decide) ?_
            have hl : lv_has ls 5 [(4, .int (nI (i + 1))), (3, .int ((nI (fb_ct (fun k => safS fo fl pl u k kz) i)) + 1)), (0, .ref x), (1, .int u), (2, .int (nI kz))] := (show (nI i) + 1 = nI (i + 1) from nI_1 i) ▸ hl
            have hl : lv_has ls 5 [(4, .int (nI (i + 1))), (3, .int (nI (fb_ct (fun k => safS fo fl pl u k kz) (i + 1)))), (0, .ref x), (1, .int u), (2, .int (nI kz))] := (show (nI (fb_ct (fun k => safS fo fl pl u k kz) i)) + 1 = nI (fb_ct (fun k => safS fo fl pl u k kz) (i + 1)) from by rw [fb_ct_succ, e, nI_1]; rfl) ▸ hl
            exact ih (i + 1) _ (by omega) (lv_sub hl [0, 1, 2, 3, 4] rfl)
      refine lv_iconst (v := 0) hx hb dX2_safeDirections_8 (by decide) ?_
      refine lv_istore_n (lv' := [(3, .int 0), (0, .ref x), (1, .int u), (2, .int (nI kz))]) hx hb dX2_safeDirections_9 rfl hl (by decide) rfl (fun ls hl => ?_)
      refine lv_iconst (v := 0) hx hb dX2_safeDirections_10 (by decide) ?_
      refine lv_istore (lv' := [(4, .int 0), (3, .int 0), (0, .ref x), (1, .int u), (2, .int (nI kz))]) hx hb dX2_safeDirections_11 hl (by decide) rfl (fun ls hl => ?_)
      have hl : lv_has ls 5 [(4, .int (nI 0)), (3, .int 0), (0, .ref x), (1, .int u), (2, .int (nI kz))] := (show 0 = nI 0 from rfl) ▸ hl
      have hl : lv_has ls 5 [(4, .int (nI 0)), (3, .int (nI (fb_ct (fun k => safS fo fl pl u k kz) 0))), (0, .ref x), (1, .int u), (2, .int (nI kz))] := (show 0 = nI (fb_ct (fun k => safS fo fl pl u k kz) 0) from rfl) ▸ hl
      exact loop 8 0 _ (by omega) (lv_sub hl [0, 1, 2, 3, 4] rfl)
