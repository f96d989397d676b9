def tnI (a b : Int32) : Int32 := (a + b + 8) - (a + b + 8) / 8 * 8
set_option maxHeartbeats 4000000 in
set_option maxRecDepth 100000 in
/-- isWithin(value, least, greatest) -/
theorem k_isWithin (l : Launch) (D : va_G) (L0 : Nat) (v a b : Int32) : Met l yX2_isWithin wsX2_isWithin ({ frames := 0, cells := 0, slots := 0, locals := 0 }) (cP L0 D [] [] [.int v, .int a, .int b]) (cR (some (.int (bI (decide (a ≤ v) && decide (v ≤ b)))))) 0 0 (fun _ => False) := by
  refine Met.ofW (cc := cX2_isWithin) (maxL := 3) (ret := (some .boolean)) (by decide) rfl ?_
  intro p e s m args below meth c s₁ B hml hv
  obtain ⟨rfl, hP, hK, hD0, hE0⟩ := hv
  have hx := B.exec
  have hb := B.bytes
  have hRt := B.returns
  have hts := atoms_spec (ws := wsX2_isWithin) B.pre
  have hown : s.vm.findClass RX2 = some m.cls := findClass_of_methodNamed B.named
  have hlocks := B.notSynchronized
  have hAL : ∀ z9 : Nat, (fun _ : Nat => False) z9 → L0 ≤ z9 := fun z9 h9 => False.elim h9
  generalize hAe : (fun _ : Nat => False) = A at hAL ⊢
  have hS : va_S A s.heap s.heap [] := va_S.rf
  have hl := lv_entry ([.int v, .int a, .int b]) (n := 3) (Nat.le_of_ble_eq_true rfl)
  rw [lg_entry_eq]
  generalize (lg_sl ([.int v, .int a, .int b]) ++ List.replicate (3 - (lg_sl ([.int v, .int a, .int b])).length) Slot.unset).toArray = ls at hl ⊢
  have hl : lv_has ls 3 [(0, .int v), (1, .int a), (2, .int b)] := hl
  refine lv_iload_n hx hb dX2_isWithin_0 rfl (lv_at hl 0 rfl) ?_
  refine lv_iload_n hx hb dX2_isWithin_1 rfl (lv_at hl 1 rfl) ?_
  refine lv_icmp_lt (tgt := 14) hx hb dX2_isWithin_2 (by decide) (fun c_1 => ?_) (fun c_1 => ?_)
  · refine lv_iconst (v := 0) hx hb dX2_isWithin_14 (by decide) ?_
    exact W.zret (v := 0) hx hb hRt (rfl) (fun t ht hW => ⟨by rw [isW_n1 (i_ltn c_1)], ht⟩) hS.2.2 dX2_isWithin_15
  · refine lv_iload_n hx hb dX2_isWithin_5 rfl (lv_at hl 0 rfl) ?_
    refine lv_iload_n hx hb dX2_isWithin_6 rfl (lv_at hl 2 rfl) ?_
    refine lv_icmp_gt (tgt := 14) hx hb dX2_isWithin_7 (by decide) (fun c_2 => ?_) (fun c_2 => ?_)
    · refine lv_iconst (v := 0) hx hb dX2_isWithin_14 (by decide) ?_
      exact W.zret (v := 0) hx hb hRt (rfl) (fun t ht hW => ⟨by rw [isW_n2 (i_ltn c_2)], ht⟩) hS.2.2 dX2_isWithin_15
    · refine lv_iconst (v := 1) hx hb dX2_isWithin_10 (by decide) ?_
      refine lv_goto (tgt := 15) hx hb dX2_isWithin_11 (by decide) ?_
      exact W.zret (v := 1) hx hb hRt (rfl) (fun t ht hW => ⟨by rw [isW_yes (i_nlt c_1) (i_nlt c_2)], ht⟩) hS.2.2 dX2_isWithin_15
set_option maxHeartbeats 4000000 in
set_option maxRecDepth 100000 in
/-- isReach(reach) -/
theorem k_isReach (l : Launch) (D : va_G) (L0 : Nat) (v : Int32) : Met l yX2_isReach wsX2_isReach ({ frames := 1, cells := 0, slots := 0, locals := 22 }) (cP L0 D [] [] [.int v]) (cR (some (.int (bI (decide (3 ≤ v) && decide (v ≤ 30)))))) 0 0 (fun _ => False) := by
  refine Met.ofW (cc := cX2_isReach) (maxL := 1) (ret := (some .boolean)) (by decide) rfl ?_
  intro p e s m args below meth c s₁ B hml hv
  obtain ⟨rfl, hP, hK, hD0, hE0⟩ := hv
  have hx := B.exec
  have hb := B.bytes
  have hRt := B.returns
  have hts := atoms_spec (ws := wsX2_isReach) B.pre
  have hown : s.vm.findClass RX2 = some m.cls := findClass_of_methodNamed B.named
  have hlocks := B.notSynchronized
  have hAL : ∀ z9 : Nat, (fun _ : Nat => False) z9 → L0 ≤ z9 := fun z9 h9 => False.elim h9
  generalize hAe : (fun _ : Nat => False) = A at hAL ⊢
  have hS : va_S A s.heap s.heap [] := va_S.rf
  have hl := lv_entry ([.int v]) (n := 1) (Nat.le_of_ble_eq_true rfl)
  rw [lg_entry_eq]
  generalize (lg_sl ([.int v]) ++ List.replicate (1 - (lg_sl ([.int v])).length) Slot.unset).toArray = ls at hl ⊢
  have hl : lv_has ls 1 [(0, .int v)] := hl
  refine lv_iload_n hx hb dX2_isReach_0 rfl (lv_at hl 0 rfl) ?_
  refine lv_iconst (v := 3) hx hb dX2_isReach_1 (by decide) ?_
  refine lv_bipush (v := 30) hx hb dX2_isReach_2 (by decide) ?_
  have hPc := hP.sub (ws' := []) [] rfl
  have hDc := hD0.sub (ws' := []) [] (by decide) rfl
  have hKc := hK.sub (tys' := []) [] rfl
  refine c_callR (va_runS (As := [.int v, .int 3, .int 30]) (rest := []) ⟨hx, hb, hml, hown, hts⟩ (k_isWithin l D L0 v 3 30) (va_cwS 3 hts gX2_isReach_X2_isWithin rfl rfl rfl (by decide +kernel) ⟨Nat.le_of_ble_eq_true rfl, Nat.le_of_ble_eq_true rfl⟩) ⟨cP_blind, cP_of hPc hKc hDc (kE_at hE0 hAL hS)⟩ rfl rfl hl.1 rfl (lv_room (Nat.le_of_ble_eq_true rfl)) dX2_isReach_4 ⟨Nat.le_of_ble_eq_true rfl, Nat.le_of_ble_eq_true rfl⟩) ?_
  show W _ _ _ _ _ _ _ _ _ _ _ _ _ _ _ (F0 m 7 ls [.int (bI (decide (3 ≤ v) && decide (v ≤ 30)))])
  exact W.zret (v := (bI (decide (3 ≤ v) && decide (v ≤ 30)))) hx hb hRt (bI_nar _) (fun t ht hW => ⟨rfl, ht⟩) hS.2.2 dX2_isReach_7
set_option maxHeartbeats 4000000 in
set_option maxRecDepth 100000 in
/-- turned(direction, turn) -/
theorem k_turned (l : Launch) (D : va_G) (L0 : Nat) (a b : Int32) : Met l yX2_turned wsX2_turned ({ frames := 0, cells := 0, slots := 0, locals := 0 }) (cP L0 D [] [] [.int a, .int b]) (cR (some (.int (tnI a b)))) 0 0 (fun _ => False) := by
  refine Met.ofW (cc := cX2_turned) (maxL := 2) (ret := (some .int)) (by decide) rfl ?_
  intro p e s m args below meth c s₁ B hml hv
  obtain ⟨rfl, hP, hK, hD0, hE0⟩ := hv
  have hx := B.exec
  have hb := B.bytes
  have hRt := B.returns
  have hts := atoms_spec (ws := wsX2_turned) B.pre
  have hown : s.vm.findClass RX2 = some m.cls := findClass_of_methodNamed B.named
  have hlocks := B.notSynchronized
  have hAL : ∀ z9 : Nat, (fun _ : Nat => False) z9 → L0 ≤ z9 := fun z9 h9 => False.elim h9
  generalize hAe : (fun _ : Nat => False) = A at hAL ⊢
  have hS : va_S A s.heap s.heap [] := va_S.rf
  have hl := lv_entry ([.int a, .int b]) (n := 2) (Nat.le_of_ble_eq_true rfl)
  rw [lg_entry_eq]
  generalize (lg_sl ([.int a, .int b]) ++ List.replicate (2 - (lg_sl ([.int a, .int b])).length) Slot.unset).toArray = ls at hl ⊢
  have hl : lv_has ls 2 [(0, .int a), (1, .int b)] := hl
  refine lv_iload_n hx hb dX2_turned_0 rfl (lv_at hl 0 rfl) ?_
  refine lv_iload_n hx hb dX2_turned_1 rfl (lv_at hl 1 rfl) ?_
  refine lv_iadd hx hb dX2_turned_2 ?_
  refine lv_bipush (v := 8) hx hb dX2_turned_3 (by decide) ?_
  refine lv_iadd hx hb dX2_turned_5 ?_
  refine lv_bipush (v := 8) hx hb dX2_turned_6 (by decide) ?_
  refine lv_irem hx hb dX2_turned_8 (by decide) ?_
  exact W.iret (v := (((a + b) + 8) - ((a + b) + 8) / 8 * 8)) hx hb hRt (fun t ht hW => ⟨rfl, ht⟩) hS.2.2 dX2_turned_9
set_option maxHeartbeats 4000000 in
set_option maxRecDepth 100000 in
/-- mixed(d, x) -/
theorem k_mixed (l : Launch) (D : va_G) (L0 : Nat) (a : Int64) (b : Int32) : Met l yX2_mixed wsX2_mixed ({ frames := 0, cells := 0, slots := 0, locals := 0 }) (cP L0 D [] [] [.long a, .int b]) (cR (some (.long (a * 31 + b.toInt64)))) 0 0 (fun _ => False) := by
  refine Met.ofW (cc := cX2_mixed) (maxL := 3) (ret := (some .long)) (by decide) rfl ?_
  intro p e s m args below meth c s₁ B hml hv
  obtain ⟨rfl, hP, hK, hD0, hE0⟩ := hv
  have hx := B.exec
  have hb := B.bytes
  have hRt := B.returns
  have hts := atoms_spec (ws := wsX2_mixed) B.pre
  have hown : s.vm.findClass RX2 = some m.cls := findClass_of_methodNamed B.named
  have hlocks := B.notSynchronized
  have hAL : ∀ z9 : Nat, (fun _ : Nat => False) z9 → L0 ≤ z9 := fun z9 h9 => False.elim h9
  generalize hAe : (fun _ : Nat => False) = A at hAL ⊢
  have hS : va_S A s.heap s.heap [] := va_S.rf
  have hl := lv_entry ([.long a, .int b]) (n := 3) (Nat.le_of_ble_eq_true rfl)
  rw [lg_entry_eq]
  generalize (lg_sl ([.long a, .int b]) ++ List.replicate (3 - (lg_sl ([.long a, .int b])).length) Slot.unset).toArray = ls at hl ⊢
  have hl : lv_has ls 3 [(0, .long a), (2, .int b)] := hl
  refine lv_lload_n hx hb dX2_mixed_0 rfl (lv_at hl 0 rfl) ?_
  refine lv_ldc2 (v := 31) hx hb hown (hts (.constantLong RX2 153 31) (by decide +kernel)) dX2_mixed_1 ?_
  refine lv_lmul hx hb dX2_mixed_4 ?_
  refine lv_iload_n hx hb dX2_mixed_5 rfl (lv_at hl 1 rfl) ?_
  refine lv_i2l hx hb dX2_mixed_6 rfl ?_
  refine lv_ladd hx hb dX2_mixed_7 ?_
  exact W.lret (v := ((a * 31) + b.toInt64)) hx hb hRt (fun t ht hW => ⟨rfl, ht⟩) hS.2.2 dX2_mixed_8
set_option maxHeartbeats 4000000 in
set_option maxRecDepth 100000 in
/-- X2_requireSide: returns or throws -/
theorem k_requireSide (l : Launch) (hfl : l.stackTraces = false) (D : va_G) (L0 : Nat) (v : Int32) : vx_Met l yX2_requireSide wsX2_requireSide ({ frames := 6, cells := 1, slots := 6, locals := 83 }) (cP L0 D [] [] [.int v]) (cRP none (0 ≤ v ∧ v ≤ 3)) (cX (fun E => E = xIOB ∧ ¬ (0 ≤ v ∧ v ≤ 3)) (fun _ => True) (fun _ => False)) 1 6 (fun _ => False) := by
  refine vx_ofW (cc := cX2_requireSide) (maxL := 1) (ret := none) (by decide) rfl ?_
  intro p e s m args below meth c s₁ B hml hxt hv
  obtain ⟨rfl, hP, hK, hD0, hE0⟩ := hv
  have hx := B.exec
  have hb := B.bytes
  have hRt := B.returns
  have hts := atoms_spec (ws := wsX2_requireSide) B.pre
  have hown : s.vm.findClass RX2 = some m.cls := findClass_of_methodNamed B.named
  have hlocks := B.notSynchronized
  have hAL : ∀ z9 : Nat, (fun _ : Nat => False) z9 → L0 ≤ z9 := fun z9 h9 => False.elim h9
  generalize hAe : (fun _ : Nat => False) = A at hAL ⊢
  have hS : va_S A s.heap s.heap [] := va_S.rf
  have hl := lv_entry ([.int v]) (n := 1) (Nat.le_of_ble_eq_true rfl)
  rw [lg_entry_eq]
  generalize (lg_sl ([.int v]) ++ List.replicate (1 - (lg_sl ([.int v])).length) Slot.unset).toArray = ls at hl ⊢
  have hl : lv_has ls 1 [(0, .int v)] := hl
  have hin163 : ∀ z ∈ (vx_atS RX2 163 xIOB kSup).filter goodWord, z ∈ wsX2_requireSide := by decide +kernel
  refine lv_iload_n hx hb dX2_requireSide_0 rfl (lv_at hl 0 rfl) ?_
  refine lv_iconst (v := 0) hx hb dX2_requireSide_1 (by decide) ?_
  refine lv_iconst (v := 3) hx hb dX2_requireSide_2 (by decide) ?_
  have hPc := hP.sub (ws' := []) [] rfl
  have hDc := hD0.sub (ws' := []) [] (by decide) rfl
  have hKc := hK.sub (tys' := []) [] rfl
  refine c_callR (va_runS (As := [.int v, .int 0, .int 3]) (rest := []) ⟨hx, hb, hml, hown, hts⟩ (k_isWithin l D L0 v 0 3) (va_cwS 3 hts gX2_requireSide_X2_isWithin rfl rfl rfl (by decide +kernel) ⟨Nat.le_of_ble_eq_true rfl, Nat.le_of_ble_eq_true rfl⟩) ⟨cP_blind, cP_of hPc hKc hDc (kE_at hE0 hAL hS)⟩ rfl rfl hl.1 rfl (lv_room (Nat.le_of_ble_eq_true rfl)) dX2_requireSide_3 ⟨Nat.le_of_ble_eq_true rfl, Nat.le_of_ble_eq_true rfl⟩) ?_
  show W _ _ _ _ _ _ _ _ _ _ _ _ _ _ _ (F0 m 6 ls [.int (bI (decide (0 ≤ v) && decide (v ≤ 3)))])
  obtain ⟨b0, hb0⟩ : ∃ b0 : Bool, b0 = (decide (0 ≤ v) && decide (v ≤ 3)) := ⟨_, rfl⟩
  rw [← hb0]
  refine lv_if_ne (tgt := 19) hx hb dX2_requireSide_6 (by decide) (fun c_3 => ?_) (fun c_3 => ?_)
  · refine vx_ret ?_
    refine W.widen (k := 1) (n := 6) (by omega) (by omega) ?_
    exact W.vret hx hb hRt (fun t ht hW => ⟨⟨rfl, ht⟩, by cases b0 with | true => simpa using hb0.symm | false => exact absurd rfl c_3⟩) hS.2.2 dX2_requireSide_19
  · exact c_throw (cls := xIOB) (text := "side must be 0 to 3") hx hb hfl hown (Or.inr (Or.inr rfl)) (hts (.classLink RX2 159 xIOB) (by decide +kernel)) (hts (.initialized xIOB) (by decide +kernel)) hE0 hAL (by decide) (fun z hz => hts z (hin163 z hz)) (by decide +kernel) (by decide +kernel) hS hl.1 hml dX2_requireSide_9 dX2_requireSide_12 dX2_requireSide_13 dX2_requireSide_15 dX2_requireSide_18 hxt (Nat.le_of_ble_eq_true rfl) (Nat.le_of_ble_eq_true rfl) (Nat.le_of_ble_eq_true rfl) (Nat.le_of_ble_eq_true rfl) hlocks (⟨rfl, fun hp => absurd c_3 (by rw [hb0]; simp [hp, bI])⟩) (fun H1 _ _ => trivial) (fun q h => h) (fun q h => h) (Nat.le_of_ble_eq_true rfl) (Nat.le_of_ble_eq_true rfl)
set_option maxHeartbeats 4000000 in
set_option maxRecDepth 100000 in
/-- X2_requireDirection: returns or throws -/
theorem k_requireDirection (l : Launch) (hfl : l.stackTraces = false) (D : va_G) (L0 : Nat) (v : Int32) : vx_Met l yX2_requireDirection wsX2_requireDirection ({ frames := 6, cells := 1, slots := 6, locals := 83 }) (cP L0 D [] [] [.int v]) (cRP none (0 ≤ v ∧ v ≤ 7)) (cX (fun E => E = xIOB ∧ ¬ (0 ≤ v ∧ v ≤ 7)) (fun _ => True) (fun _ => False)) 1 6 (fun _ => False) := by
  refine vx_ofW (cc := cX2_requireDirection) (maxL := 1) (ret := none) (by decide) rfl ?_
  intro p e s m args below meth c s₁ B hml hxt hv
  obtain ⟨rfl, hP, hK, hD0, hE0⟩ := hv
  have hx := B.exec
  have hb := B.bytes
  have hRt := B.returns
  have hts := atoms_spec (ws := wsX2_requireDirection) B.pre
  have hown : s.vm.findClass RX2 = some m.cls := findClass_of_methodNamed B.named
  have hlocks := B.notSynchronized
  have hAL : ∀ z9 : Nat, (fun _ : Nat => False) z9 → L0 ≤ z9 := fun z9 h9 => False.elim h9
  generalize hAe : (fun _ : Nat => False) = A at hAL ⊢
  have hS : va_S A s.heap s.heap [] := va_S.rf
  have hl := lv_entry ([.int v]) (n := 1) (Nat.le_of_ble_eq_true rfl)
  rw [lg_entry_eq]
  generalize (lg_sl ([.int v]) ++ List.replicate (1 - (lg_sl ([.int v])).length) Slot.unset).toArray = ls at hl ⊢
  have hl : lv_has ls 1 [(0, .int v)] := hl
  have hin163 : ∀ z ∈ (vx_atS RX2 163 xIOB kSup).filter goodWord, z ∈ wsX2_requireDirection := by decide +kernel
  refine lv_iload_n hx hb dX2_requireDirection_0 rfl (lv_at hl 0 rfl) ?_
  refine lv_iconst (v := 0) hx hb dX2_requireDirection_1 (by decide) ?_
  refine lv_bipush (v := 7) hx hb dX2_requireDirection_2 (by decide) ?_
  have hPc := hP.sub (ws' := []) [] rfl
  have hDc := hD0.sub (ws' := []) [] (by decide) rfl
  have hKc := hK.sub (tys' := []) [] rfl
  refine c_callR (va_runS (As := [.int v, .int 0, .int 7]) (rest := []) ⟨hx, hb, hml, hown, hts⟩ (k_isWithin l D L0 v 0 7) (va_cwS 3 hts gX2_requireDirection_X2_isWithin rfl rfl rfl (by decide +kernel) ⟨Nat.le_of_ble_eq_true rfl, Nat.le_of_ble_eq_true rfl⟩) ⟨cP_blind, cP_of hPc hKc hDc (kE_at hE0 hAL hS)⟩ rfl rfl hl.1 rfl (lv_room (Nat.le_of_ble_eq_true rfl)) dX2_requireDirection_4 ⟨Nat.le_of_ble_eq_true rfl, Nat.le_of_ble_eq_true rfl⟩) ?_
  show W _ _ _ _ _ _ _ _ _ _ _ _ _ _ _ (F0 m 7 ls [.int (bI (decide (0 ≤ v) && decide (v ≤ 7)))])
  obtain ⟨b0, hb0⟩ : ∃ b0 : Bool, b0 = (decide (0 ≤ v) && decide (v ≤ 7)) := ⟨_, rfl⟩
  rw [← hb0]
  refine lv_if_ne (tgt := 20) hx hb dX2_requireDirection_7 (by decide) (fun c_4 => ?_) (fun c_4 => ?_)
  · refine vx_ret ?_
    refine W.widen (k := 1) (n := 6) (by omega) (by omega) ?_
    exact W.vret hx hb hRt (fun t ht hW => ⟨⟨rfl, ht⟩, by cases b0 with | true => simpa using hb0.symm | false => exact absurd rfl c_4⟩) hS.2.2 dX2_requireDirection_20
  · exact c_throw (cls := xIOB) (text := "direction must be 0 to 7") hx hb hfl hown (Or.inr (Or.inr rfl)) (hts (.classLink RX2 159 xIOB) (by decide +kernel)) (hts (.initialized xIOB) (by decide +kernel)) hE0 hAL (by decide) (fun z hz => hts z (hin163 z hz)) (by decide +kernel) (by decide +kernel) hS hl.1 hml dX2_requireDirection_10 dX2_requireDirection_13 dX2_requireDirection_14 dX2_requireDirection_16 dX2_requireDirection_19 hxt (Nat.le_of_ble_eq_true rfl) (Nat.le_of_ble_eq_true rfl) (Nat.le_of_ble_eq_true rfl) (Nat.le_of_ble_eq_true rfl) hlocks (⟨rfl, fun hp => absurd c_4 (by rw [hb0]; simp [hp, bI])⟩) (fun H1 _ _ => trivial) (fun q h => h) (fun q h => h) (Nat.le_of_ble_eq_true rfl) (Nat.le_of_ble_eq_true rfl)
set_option maxHeartbeats 4000000 in
set_option maxRecDepth 100000 in
/-- X2_requireLoad: returns or throws -/
theorem k_requireLoad (l : Launch) (hfl : l.stackTraces = false) (D : va_G) (L0 : Nat) (v : Int32) : vx_Met l yX2_requireLoad wsX2_requireLoad ({ frames := 6, cells := 1, slots := 6, locals := 83 }) (cP L0 D [] [] [.int v]) (cRP none (0 ≤ v ∧ v ≤ 60)) (cX (fun E => E = xIAE ∧ ¬ (0 ≤ v ∧ v ≤ 60)) (fun _ => True) (fun _ => False)) 1 6 (fun _ => False) := by
  refine vx_ofW (cc := cX2_requireLoad) (maxL := 1) (ret := none) (by decide) rfl ?_
  intro p e s m args below meth c s₁ B hml hxt hv
  obtain ⟨rfl, hP, hK, hD0, hE0⟩ := hv
  have hx := B.exec
  have hb := B.bytes
  have hRt := B.returns
  have hts := atoms_spec (ws := wsX2_requireLoad) B.pre
  have hown : s.vm.findClass RX2 = some m.cls := findClass_of_methodNamed B.named
  have hlocks := B.notSynchronized
  have hAL : ∀ z9 : Nat, (fun _ : Nat => False) z9 → L0 ≤ z9 := fun z9 h9 => False.elim h9
  generalize hAe : (fun _ : Nat => False) = A at hAL ⊢
  have hS : va_S A s.heap s.heap [] := va_S.rf
  have hl := lv_entry ([.int v]) (n := 1) (Nat.le_of_ble_eq_true rfl)
  rw [lg_entry_eq]
  generalize (lg_sl ([.int v]) ++ List.replicate (1 - (lg_sl ([.int v])).length) Slot.unset).toArray = ls at hl ⊢
  have hl : lv_has ls 1 [(0, .int v)] := hl
  have hin38 : ∀ z ∈ (vx_atS RX2 38 xIAE kSup).filter goodWord, z ∈ wsX2_requireLoad := by decide +kernel
  refine lv_iload_n hx hb dX2_requireLoad_0 rfl (lv_at hl 0 rfl) ?_
  refine lv_iconst (v := 0) hx hb dX2_requireLoad_1 (by decide) ?_
  refine lv_bipush (v := 60) hx hb dX2_requireLoad_2 (by decide) ?_
  have hPc := hP.sub (ws' := []) [] rfl
  have hDc := hD0.sub (ws' := []) [] (by decide) rfl
  have hKc := hK.sub (tys' := []) [] rfl
  refine c_callR (va_runS (As := [.int v, .int 0, .int 60]) (rest := []) ⟨hx, hb, hml, hown, hts⟩ (k_isWithin l D L0 v 0 60) (va_cwS 3 hts gX2_requireLoad_X2_isWithin rfl rfl rfl (by decide +kernel) ⟨Nat.le_of_ble_eq_true rfl, Nat.le_of_ble_eq_true rfl⟩) ⟨cP_blind, cP_of hPc hKc hDc (kE_at hE0 hAL hS)⟩ rfl rfl hl.1 rfl (lv_room (Nat.le_of_ble_eq_true rfl)) dX2_requireLoad_4 ⟨Nat.le_of_ble_eq_true rfl, Nat.le_of_ble_eq_true rfl⟩) ?_
  show W _ _ _ _ _ _ _ _ _ _ _ _ _ _ _ (F0 m 7 ls [.int (bI (decide (0 ≤ v) && decide (v ≤ 60)))])
  obtain ⟨b0, hb0⟩ : ∃ b0 : Bool, b0 = (decide (0 ≤ v) && decide (v ≤ 60)) := ⟨_, rfl⟩
  rw [← hb0]
  refine lv_if_ne (tgt := 20) hx hb dX2_requireLoad_7 (by decide) (fun c_5 => ?_) (fun c_5 => ?_)
  · refine vx_ret ?_
    refine W.widen (k := 1) (n := 6) (by omega) (by omega) ?_
    exact W.vret hx hb hRt (fun t ht hW => ⟨⟨rfl, ht⟩, by cases b0 with | true => simpa using hb0.symm | false => exact absurd rfl c_5⟩) hS.2.2 dX2_requireLoad_20
  · exact c_throw (cls := xIAE) (text := "load must be 0 to 60") hx hb hfl hown (Or.inl rfl) (hts (.classLink RX2 34 xIAE) (by decide +kernel)) (hts (.initialized xIAE) (by decide +kernel)) hE0 hAL (by decide) (fun z hz => hts z (hin38 z hz)) (by decide +kernel) (by decide +kernel) hS hl.1 hml dX2_requireLoad_10 dX2_requireLoad_13 dX2_requireLoad_14 dX2_requireLoad_16 dX2_requireLoad_19 hxt (Nat.le_of_ble_eq_true rfl) (Nat.le_of_ble_eq_true rfl) (Nat.le_of_ble_eq_true rfl) (Nat.le_of_ble_eq_true rfl) hlocks (⟨rfl, fun hp => absurd c_5 (by rw [hb0]; simp [hp, bI])⟩) (fun H1 _ _ => trivial) (fun q h => h) (fun q h => h) (Nat.le_of_ble_eq_true rfl) (Nat.le_of_ble_eq_true rfl)
set_option maxHeartbeats 4000000 in
set_option maxRecDepth 100000 in
/-- X2_requireReach: returns or throws -/
theorem k_requireReach (l : Launch) (hfl : l.stackTraces = false) (D : va_G) (L0 : Nat) (v : Int32) : vx_Met l yX2_requireReach wsX2_requireReach ({ frames := 6, cells := 1, slots := 6, locals := 83 }) (cP L0 D [] [] [.int v]) (cRP none (3 ≤ v ∧ v ≤ 30)) (cX (fun E => E = xIAE ∧ ¬ (3 ≤ v ∧ v ≤ 30)) (fun _ => True) (fun _ => False)) 1 6 (fun _ => False) := by
  refine vx_ofW (cc := cX2_requireReach) (maxL := 1) (ret := none) (by decide) rfl ?_
  intro p e s m args below meth c s₁ B hml hxt hv
  obtain ⟨rfl, hP, hK, hD0, hE0⟩ := hv
  have hx := B.exec
  have hb := B.bytes
  have hRt := B.returns
  have hts := atoms_spec (ws := wsX2_requireReach) B.pre
  have hown : s.vm.findClass RX2 = some m.cls := findClass_of_methodNamed B.named
  have hlocks := B.notSynchronized
  have hAL : ∀ z9 : Nat, (fun _ : Nat => False) z9 → L0 ≤ z9 := fun z9 h9 => False.elim h9
  generalize hAe : (fun _ : Nat => False) = A at hAL ⊢
  have hS : va_S A s.heap s.heap [] := va_S.rf
  have hl := lv_entry ([.int v]) (n := 1) (Nat.le_of_ble_eq_true rfl)
  rw [lg_entry_eq]
  generalize (lg_sl ([.int v]) ++ List.replicate (1 - (lg_sl ([.int v])).length) Slot.unset).toArray = ls at hl ⊢
  have hl : lv_has ls 1 [(0, .int v)] := hl
  have hin38 : ∀ z ∈ (vx_atS RX2 38 xIAE kSup).filter goodWord, z ∈ wsX2_requireReach := by decide +kernel
  refine lv_iload_n hx hb dX2_requireReach_0 rfl (lv_at hl 0 rfl) ?_
  have hPc := hP.sub (ws' := []) [] rfl
  have hDc := hD0.sub (ws' := []) [] (by decide) rfl
  have hKc := hK.sub (tys' := []) [] rfl
  refine c_callR (va_runS (As := [.int v]) (rest := []) ⟨hx, hb, hml, hown, hts⟩ (k_isReach l D L0 v) (va_cwS 1 hts gX2_requireReach_X2_isReach rfl rfl rfl (by decide +kernel) ⟨Nat.le_of_ble_eq_true rfl, Nat.le_of_ble_eq_true rfl⟩) ⟨cP_blind, cP_of hPc hKc hDc (kE_at hE0 hAL hS)⟩ rfl rfl hl.1 rfl (lv_room (Nat.le_of_ble_eq_true rfl)) dX2_requireReach_1 ⟨Nat.le_of_ble_eq_true rfl, Nat.le_of_ble_eq_true rfl⟩) ?_
  show W _ _ _ _ _ _ _ _ _ _ _ _ _ _ _ (F0 m 4 ls [.int (bI (decide (3 ≤ v) && decide (v ≤ 30)))])
  obtain ⟨b0, hb0⟩ : ∃ b0 : Bool, b0 = (decide (3 ≤ v) && decide (v ≤ 30)) := ⟨_, rfl⟩
  rw [← hb0]
  refine lv_if_ne (tgt := 17) hx hb dX2_requireReach_4 (by decide) (fun c_6 => ?_) (fun c_6 => ?_)
  · refine vx_ret ?_
    refine W.widen (k := 1) (n := 6) (by omega) (by omega) ?_
    exact W.vret hx hb hRt (fun t ht hW => ⟨⟨rfl, ht⟩, by cases b0 with | true => simpa using hb0.symm | false => exact absurd rfl c_6⟩) hS.2.2 dX2_requireReach_17
  · exact c_throw (cls := xIAE) (text := "reach must be 3 to 30") hx hb hfl hown (Or.inl rfl) (hts (.classLink RX2 34 xIAE) (by decide +kernel)) (hts (.initialized xIAE) (by decide +kernel)) hE0 hAL (by decide) (fun z hz => hts z (hin38 z hz)) (by decide +kernel) (by decide +kernel) hS hl.1 hml dX2_requireReach_7 dX2_requireReach_10 dX2_requireReach_11 dX2_requireReach_13 dX2_requireReach_16 hxt (Nat.le_of_ble_eq_true rfl) (Nat.le_of_ble_eq_true rfl) (Nat.le_of_ble_eq_true rfl) (Nat.le_of_ble_eq_true rfl) hlocks (⟨rfl, fun hp => absurd c_6 (by rw [hb0]; simp [hp, bI])⟩) (fun H1 _ _ => trivial) (fun q h => h) (fun q h => h) (Nat.le_of_ble_eq_true rfl) (Nat.le_of_ble_eq_true rfl)
