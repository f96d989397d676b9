/-- a double that is one number, or a NaN where that is one; the heap as it was -/
def cDd (v : UInt64) : Array Value → State → Outcome → State → Prop := fun _ st oc t => (∃ r : UInt64, oc = .returned (some (.double r)) ∧ alike64 r v = true) ∧ t.heap = st.heap
set_option maxHeartbeats 4000000 in
set_option maxRecDepth 100000 in
/-- Rig() -/
theorem k_Rig_init (l : Launch) (D : va_G) (L0 : Nat) (cI : ClassId) (h : Nat) (sz : Nat) : Met l yX1_init wsX1_init ({ frames := 1, cells := 2, slots := 32, locals := 12 }) (cPz L0 D [(cI, .int)] [(h, .inr (1, [.null, .null, .int 0]))] [.ref h] sz) (cB none (fun H => ∃ o9 q9 : Nat, va_P D vwCl [(h, .inr (1, [.ref o9, .ref q9, .int 0])), (o9, .inl (cI, 4, .inl (fun _ => 0))), (q9, .inl (cI, 28, .inl (sh lim0)))] H ∧ va_D (va_A [(h, .inr (1, [.null, .null, .int 0]))] sz) [(h, .inr (1, [.ref o9, .ref q9, .int 0])), (o9, .inl (cI, 4, .inl (fun _ => 0))), (q9, .inl (cI, 28, .inl (sh lim0)))]) (va_A [(h, .inr (1, [.null, .null, .int 0]))] sz)) 2 32 (va_A [(h, .inr (1, [.null, .null, .int 0]))] sz) := by
  refine Met.ofW (cc := cX1_init) (maxL := 2) (ret := none) (by decide) rfl ?_
  intro p e s m args below meth c s₁ B hml hv
  obtain ⟨⟨rfl, hP, hK, hD0, hE0⟩, rfl⟩ := hv
  have hx := B.exec
  have hb := B.bytes
  have hRt := B.returns
  have hts := atoms_spec (ws := wsX1_init) B.pre
  have hown : s.vm.findClass RX1 = some m.cls := findClass_of_methodNamed B.named
  have hlocks := B.notSynchronized
  have hin : meth.name = "<init>" := (name_of_methodNamed B.named B.method).1
  have hAL : ∀ z9 : Nat, va_A [(h, .inr (1, [.null, .null, .int 0]))] s.heap.size z9 → L0 ≤ z9 := fun z9 h9 => h9.elim (fun ⟨k9, e9, h8⟩ => hD0.2 k9 (z9, e9) h8) (fun h8 => Nat.le_trans hE0.1 h8)
  have hD : va_D (va_A [(h, .inr (1, [.null, .null, .int 0]))] s.heap.size) [(h, .inr (1, [.null, .null, .int 0]))] := hD0.self
  have hA : ∀ z9 : Nat, s.heap.size ≤ z9 → va_A [(h, .inr (1, [.null, .null, .int 0]))] s.heap.size z9 := fun z9 h9 => Or.inr h9
  generalize hAe : va_A [(h, .inr (1, [.null, .null, .int 0]))] s.heap.size = A at hD hAL hA ⊢
  have hS : va_S A s.heap s.heap [] := va_S.rf
  have hiX1 : ∀ w ∈ u_ws RX1 TX1 3, w ∈ wsX1_init := by decide +kernel
  have hl := lv_entry ([.ref h]) (n := 2) (Nat.le_of_ble_eq_true rfl)
  rw [lg_entry_eq]
  generalize (lg_sl ([.ref h]) ++ List.replicate (2 - (lg_sl ([.ref h])).length) Slot.unset).toArray = ls at hl ⊢
  have hl : lv_has ls 2 [(0, .ref h)] := hl
  refine lv_aload_n hx hb dX1_init_0 rfl (lv_at hl 0 rfl) ?_
  refine W.objInit hx hb hown (hts (.methodLink RX1 3 objectInit) (by decide +kernel)) (hts (.instanceMethod objectInit) (by decide +kernel)) (hts (.code objectInit ⟨#[0xb1]⟩ 1 none) (by decide +kernel)) rfl (by rw [hml]; exact hl.1) rfl dX1_init_1 (Nat.le_of_ble_eq_true rfl) (Nat.le_of_ble_eq_true rfl) ?_
  refine W.eq (g2 := F0 m 4 ls []) rfl ?_
  refine lv_aload_n hx hb dX1_init_4 rfl (lv_at hl 0 rfl) ?_
  refine lv_iconst (v := 4) hx hb dX1_init_5 (by decide) ?_
  refine va_newa (atype := .int) (ty := .int) (a0 := (4, .inl (fun _ => 0))) (N' := 4) hx hb (hts (.arrayClass .int) (by decide +kernel)) rfl hK hP hD hS hA (fun _ => rfl) (by decide) (by decide) (Nat.le_of_ble_eq_true rfl) (Nat.le_of_ble_eq_true rfl) (Nat.le_of_ble_eq_true rfl) dX1_init_6 (fun o9 cA H hK hP hD hS => ?_)
  have eA : cA = cI := Option.some.inj ((hK.2 1 _ rfl).2.symm.trans (hK.2 0 _ rfl).2)
  rw [eA] at hP hD
  have hK := hK.sub (tys' := [(cI, .int)]) [0] rfl
  have hP : va_P D vwCl [(h, .inr (1, [.null, .null, .int 0])), (o9, .inl (cI, 4, .inl (fun _ => 0)))] H := hP
  have hD : va_D A [(h, .inr (1, [.null, .null, .int 0])), (o9, .inl (cI, 4, .inl (fun _ => 0)))] := hD
  refine va_putF (D := D) (ci := 1) (v := .ref o9) (ty := .array .int) (C := RX1) (T := TX1) (N := 3) hx hb hts hiX1 tyX1 tyX1_ok nmX1 hown hK hP hD hS 0 rfl rfl 0 (by decide) (hts (.fieldLink RX1 9 "CraneReach$Rig" "outs" "[I") (by decide +kernel)) (fun _ h9 => h9) rfl hin rfl (by decide +kernel) rfl rfl (Nat.le_of_ble_eq_true rfl) dX1_init_8 (fun H locs hP hD hS => ?_)
  have hP : va_P D vwCl [(h, .inr (1, [.ref o9, .null, .int 0])), (o9, .inl (cI, 4, .inl (fun _ => 0)))] H := hP
  have hD : va_D A [(h, .inr (1, [.ref o9, .null, .int 0])), (o9, .inl (cI, 4, .inl (fun _ => 0)))] := hD
  refine lv_aload_n hx hb dX1_init_11 rfl (lv_at hl 0 rfl) ?_
  refine lv_bipush (v := 28) hx hb dX1_init_12 (by decide) ?_
  refine va_newa (atype := .int) (ty := .int) (a0 := (28, .inl (fun _ => 0))) (N' := 28) hx hb (hts (.arrayClass .int) (by decide +kernel)) rfl hK hP hD hS hA (fun _ => rfl) (by decide) (by decide) (Nat.le_of_ble_eq_true rfl) (Nat.le_of_ble_eq_true rfl) (Nat.le_of_ble_eq_true rfl) dX1_init_14 (fun q9 cA H hK hP hD hS => ?_)
  have eA : cA = cI := Option.some.inj ((hK.2 1 _ rfl).2.symm.trans (hK.2 0 _ rfl).2)
  rw [eA] at hP hD
  have hK := hK.sub (tys' := [(cI, .int)]) [0] rfl
  have hP : va_P D vwCl [(h, .inr (1, [.ref o9, .null, .int 0])), (o9, .inl (cI, 4, .inl (fun _ => 0))), (q9, .inl (cI, 28, .inl (fun _ => 0)))] H := hP
  have hD : va_D A [(h, .inr (1, [.ref o9, .null, .int 0])), (o9, .inl (cI, 4, .inl (fun _ => 0))), (q9, .inl (cI, 28, .inl (fun _ => 0)))] := hD
  refine va_putF (D := D) (ci := 1) (v := .ref q9) (ty := .array .int) (C := RX1) (T := TX1) (N := 3) hx hb hts hiX1 tyX1 tyX1_ok nmX1 hown hK hP hD hS 0 rfl rfl 1 (by decide) (hts (.fieldLink RX1 15 "CraneReach$Rig" "limits" "[I") (by decide +kernel)) (fun _ h9 => h9) rfl hin rfl (by decide +kernel) rfl rfl (Nat.le_of_ble_eq_true rfl) dX1_init_16 (fun H locs hP hD hS => ?_)
  have hP : va_P D vwCl [(h, .inr (1, [.ref o9, .ref q9, .int 0])), (o9, .inl (cI, 4, .inl (fun _ => 0))), (q9, .inl (cI, 28, .inl (fun _ => 0)))] H := hP
  have hD : va_D A [(h, .inr (1, [.ref o9, .ref q9, .int 0])), (o9, .inl (cI, 4, .inl (fun _ => 0))), (q9, .inl (cI, 28, .inl (fun _ => 0)))] := hD
  refine lv_iconst (v := 0) hx hb dX1_init_19 (by decide) ?_
  refine lv_istore_n (lv' := [(1, .int 0), (0, .ref h)]) hx hb dX1_init_20 rfl hl (by decide) rfl (fun ls hl => ?_)
  have loop : ∀ (n : Nat) (i : Nat) (gl : Nat → Int32) (H : Heap) (locs : List Loc) (ls : Array Slot), i + n = 28 → (∀ j, j < i → gl j = sh lim0 j) → lv_has ls 2 [(1, .int (nI i)), (0, .ref h)] → va_P D vwCl [(h, .inr (1, [.ref o9, .ref q9, .int 0])), (o9, .inl (cI, 4, .inl (fun _ => 0))), (q9, .inl (cI, 28, .inl gl))] H → va_D A [(h, .inr (1, [.ref o9, .ref q9, .int 0])), (o9, .inl (cI, 4, .inl (fun _ => 0))), (q9, .inl (cI, 28, .inl gl))] → va_S A s.heap H locs → W p l e (headSpec wsX1_init ({ frames := 1, cells := 2, slots := 32, locals := 12 })).room s m ([.ref h]).toArray below meth c H locs (0 + 1 + 1) (0 + 4 + 28) (MQ below (cB none (fun H => ∃ o9 q9 : Nat, va_P D vwCl [(h, .inr (1, [.ref o9, .ref q9, .int 0])), (o9, .inl (cI, 4, .inl (fun _ => 0))), (q9, .inl (cI, 28, .inl (sh lim0)))] H ∧ va_D A [(h, .inr (1, [.ref o9, .ref q9, .int 0])), (o9, .inl (cI, 4, .inl (fun _ => 0))), (q9, .inl (cI, 28, .inl (sh lim0)))]) A) ([.ref h]).toArray s 2 32 A) (F0 m 21 ls []) := by
    intro n
    induction n with
    | zero =>
      intro i gl H locs ls hn hg hl hP hD hS
      have hi : i = 28 := by omega
      rw [hi] at hl
      refine lv_iload_n hx hb dX1_init_21 rfl (lv_at hl 0 rfl) ?_
      refine lv_aload_n hx hb dX1_init_22 rfl (lv_at hl 1 rfl) ?_
      refine va_get (D := D) (ci := 1) (v := .ref q9) (C := RX1) (T := TX1) (N := 3) hx hb hts hiX1 hown hK hP 0 rfl rfl 1 (by decide) (hts (.fieldLink RX1 15 "CraneReach$Rig" "limits" "[I") (by decide +kernel)) (fun _ h9 => h9) rfl dX1_init_23 ?_
      refine va_alen hx hb hK hP 2 0 rfl rfl (v := 28) rfl dX1_init_26 ?_
      refine lv_icmp_ge (tgt := 48) hx hb dX1_init_27 (by decide) (fun _ => ?_) (fun c_46 => absurd (by decide) c_46)
      have hP : va_P D vwCl [(h, .inr (1, [.ref o9, .ref q9, .int 0])), (o9, .inl (cI, 4, .inl (fun _ => 0))), (q9, .inl (cI, 28, .inl (sh lim0)))] H := by
        intro k z hz
        match k, hz with
        | 0, hz => exact hP 0 z hz
        | 1, hz => exact hP 1 z hz
        | 2, hz => cases hz; exact arr_same (hP 2 _ rfl) (fun j hj => hg j (by omega))
        | k + 3, hz => cases hz
      exact W.vret hx hb hRt (fun t ht hW => ⟨⟨rfl, by rw [ht]; exact ⟨_, _, hP, c_Dsame hD rfl⟩⟩, hS.F ht⟩) hS.2.2 dX1_init_48
    | succ n ih =>
      intro i gl H locs ls hn hg hl hP hD hS
      refine lv_iload_n hx hb dX1_init_21 rfl (lv_at hl 0 rfl) ?_
      refine lv_aload_n hx hb dX1_init_22 rfl (lv_at hl 1 rfl) ?_
      refine va_get (D := D) (ci := 1) (v := .ref q9) (C := RX1) (T := TX1) (N := 3) hx hb hts hiX1 hown hK hP 0 rfl rfl 1 (by decide) (hts (.fieldLink RX1 15 "CraneReach$Rig" "limits" "[I") (by decide +kernel)) (fun _ h9 => h9) rfl dX1_init_23 ?_
      refine va_alen hx hb hK hP 2 0 rfl rfl (v := 28) rfl dX1_init_26 ?_
      refine lv_icmp_ge (tgt := 48) hx hb dX1_init_27 (by decide) (fun c_47 => absurd c_47 (nI_ge (b := 28) (by omega) (by decide))) (fun _ => ?_)
      refine lv_aload_n hx hb dX1_init_30 rfl (lv_at hl 1 rfl) ?_
      refine va_get (D := D) (ci := 1) (v := .ref q9) (C := RX1) (T := TX1) (N := 3) hx hb hts hiX1 hown hK hP 0 rfl rfl 1 (by decide) (hts (.fieldLink RX1 15 "CraneReach$Rig" "limits" "[I") (by decide +kernel)) (fun _ h9 => h9) rfl dX1_init_31 ?_
      refine lv_iload_n hx hb dX1_init_34 rfl (lv_at hl 0 rfl) ?_
      refine lv_bipush (v := 90) hx hb dX1_init_35 (by decide) ?_
      refine lv_iload_n hx hb dX1_init_37 rfl (lv_at hl 0 rfl) ?_
      refine lv_iconst (v := 3) hx hb dX1_init_38 (by decide) ?_
      refine lv_iadd hx hb dX1_init_39 ?_
      refine lv_idiv hx hb dX1_init_40 (lim_ne i (by omega)) ?_
      refine c_top (show 90 / ((nI i) + 3) = nI (90 / (i + 3)) from lim_div i (by omega)) ?_
      refine va_iast hx hb hK hP hD hS 2 0 rfl rfl (vp_in_nI (by omega) (by decide)) dX1_init_41 (fun H locs hP hD hS => ?_)
      have hP : va_P D vwCl [(h, .inr (1, [.ref o9, .ref q9, .int 0])), (o9, .inl (cI, 4, .inl (fun _ => 0))), (q9, .inl (cI, 28, .inl (upd gl (nI i).toNatClampNeg (nI (90 / (i + 3))))))] H := hP
      have hD : va_D A [(h, .inr (1, [.ref o9, .ref q9, .int 0])), (o9, .inl (cI, 4, .inl (fun _ => 0))), (q9, .inl (cI, 28, .inl (upd gl (nI i).toNatClampNeg (nI (90 / (i + 3))))))] := hD
      rw [show (nI i).toNatClampNeg = i from nI_clamp (by omega)] at hP hD
      have hP : va_P D vwCl [(h, .inr (1, [.ref o9, .ref q9, .int 0])), (o9, .inl (cI, 4, .inl (fun _ => 0))), (q9, .inl (cI, 28, .inl (upd gl i (nI (90 / (i + 3))))))] H := hP
      have hD : va_D A [(h, .inr (1, [.ref o9, .ref q9, .int 0])), (o9, .inl (cI, 4, .inl (fun _ => 0))), (q9, .inl (cI, 28, .inl (upd gl i (nI (90 / (i + 3))))))] := hD
      refine lv_iinc (v := (nI i) + 1) (lv' := [(1, .int ((nI i) + 1)), (0, .ref h)]) hx hb dX1_init_42 hl (k := 0) rfl rfl (by decide) rfl (fun ls hl => ?_)
      refine lv_goto (tgt := 21) hx hb dX1_init_45 (by decide) ?_
      have hl : lv_has ls 2 [(1, .int (nI (i + 1))), (0, .ref h)] := (show (nI i) + 1 = nI (i + 1) from nI_1 i) ▸ hl
      exact ih (i + 1) _ _ _ _ (by omega) (fun j hj => by
            by_cases e : j = i
            · rw [e, pk_us, sh, lim0, if_pos (by omega)]
            · rw [pk_un e]; exact hg j (by omega)) (lv_sub hl [0, 1] rfl) hP hD hS
  have hl : lv_has ls 2 [(1, .int (nI 0)), (0, .ref h)] := (show 0 = nI 0 from rfl) ▸ hl
  exact loop 28 0 _ _ _ _ (by omega) (fun j hj => absurd hj (Nat.not_lt_zero j)) (lv_sub hl [0, 1] rfl) hP hD hS
set_option maxHeartbeats 4000000 in
set_option maxRecDepth 100000 in
/-- Plan() -/
theorem k_Plan_init (l : Launch) (D : va_G) (L0 : Nat) (cI : ClassId) (h : Nat) (sz : Nat) : Met l yX0_init wsX0_init ({ frames := 1, cells := 2, slots := 448, locals := 12 }) (cPz L0 D [(cI, .int)] [(h, .inr (0, [.null, .null, .int 0]))] [.ref h] sz) (cB none (fun H => ∃ o9 q9 : Nat, va_P D vwCl [(h, .inr (0, [.ref o9, .ref q9, .int 0])), (o9, .inl (cI, 224, .inl (fun _ => 0))), (q9, .inl (cI, 224, .inl (fun _ => 0)))] H ∧ va_D (va_A [(h, .inr (0, [.null, .null, .int 0]))] sz) [(h, .inr (0, [.ref o9, .ref q9, .int 0])), (o9, .inl (cI, 224, .inl (fun _ => 0))), (q9, .inl (cI, 224, .inl (fun _ => 0)))]) (va_A [(h, .inr (0, [.null, .null, .int 0]))] sz)) 2 448 (va_A [(h, .inr (0, [.null, .null, .int 0]))] sz) := by
  refine Met.ofW (cc := cX0_init) (maxL := 1) (ret := none) (by decide) rfl ?_
  intro p e s m args below meth c s₁ B hml hv
  obtain ⟨⟨rfl, hP, hK, hD0, hE0⟩, rfl⟩ := hv
  have hx := B.exec
  have hb := B.bytes
  have hRt := B.returns
  have hts := atoms_spec (ws := wsX0_init) B.pre
  have hown : s.vm.findClass RX0 = some m.cls := findClass_of_methodNamed B.named
  have hlocks := B.notSynchronized
  have hin : meth.name = "<init>" := (name_of_methodNamed B.named B.method).1
  have hAL : ∀ z9 : Nat, va_A [(h, .inr (0, [.null, .null, .int 0]))] s.heap.size z9 → L0 ≤ z9 := fun z9 h9 => h9.elim (fun ⟨k9, e9, h8⟩ => hD0.2 k9 (z9, e9) h8) (fun h8 => Nat.le_trans hE0.1 h8)
  have hD : va_D (va_A [(h, .inr (0, [.null, .null, .int 0]))] s.heap.size) [(h, .inr (0, [.null, .null, .int 0]))] := hD0.self
  have hA : ∀ z9 : Nat, s.heap.size ≤ z9 → va_A [(h, .inr (0, [.null, .null, .int 0]))] s.heap.size z9 := fun z9 h9 => Or.inr h9
  generalize hAe : va_A [(h, .inr (0, [.null, .null, .int 0]))] s.heap.size = A at hD hAL hA ⊢
  have hS : va_S A s.heap s.heap [] := va_S.rf
  have hiX0 : ∀ w ∈ u_ws RX0 TX0 3, w ∈ wsX0_init := by decide +kernel
  have hl := lv_entry ([.ref h]) (n := 1) (Nat.le_of_ble_eq_true rfl)
  rw [lg_entry_eq]
  generalize (lg_sl ([.ref h]) ++ List.replicate (1 - (lg_sl ([.ref h])).length) Slot.unset).toArray = ls at hl ⊢
  have hl : lv_has ls 1 [(0, .ref h)] := hl
  refine lv_aload_n hx hb dX0_init_0 rfl (lv_at hl 0 rfl) ?_
  refine W.objInit hx hb hown (hts (.methodLink RX0 3 objectInit) (by decide +kernel)) (hts (.instanceMethod objectInit) (by decide +kernel)) (hts (.code objectInit ⟨#[0xb1]⟩ 1 none) (by decide +kernel)) rfl (by rw [hml]; exact hl.1) rfl dX0_init_1 (Nat.le_of_ble_eq_true rfl) (Nat.le_of_ble_eq_true rfl) ?_
  refine W.eq (g2 := F0 m 4 ls []) rfl ?_
  refine lv_aload_n hx hb dX0_init_4 rfl (lv_at hl 0 rfl) ?_
  refine lv_sipush (v := 224) hx hb dX0_init_5 (by decide) ?_
  refine va_newa (atype := .int) (ty := .int) (a0 := (224, .inl (fun _ => 0))) (N' := 224) hx hb (hts (.arrayClass .int) (by decide +kernel)) rfl hK hP hD hS hA (fun _ => rfl) (by decide) (by decide) (Nat.le_of_ble_eq_true rfl) (Nat.le_of_ble_eq_true rfl) (Nat.le_of_ble_eq_true rfl) dX0_init_8 (fun o9 cA H hK hP hD hS => ?_)
  have eA : cA = cI := Option.some.inj ((hK.2 1 _ rfl).2.symm.trans (hK.2 0 _ rfl).2)
  rw [eA] at hP hD
  have hK := hK.sub (tys' := [(cI, .int)]) [0] rfl
  have hP : va_P D vwCl [(h, .inr (0, [.null, .null, .int 0])), (o9, .inl (cI, 224, .inl (fun _ => 0)))] H := hP
  have hD : va_D A [(h, .inr (0, [.null, .null, .int 0])), (o9, .inl (cI, 224, .inl (fun _ => 0)))] := hD
  refine va_putF (D := D) (ci := 0) (v := .ref o9) (ty := .array .int) (C := RX0) (T := TX0) (N := 3) hx hb hts hiX0 tyX0 tyX0_ok nmX0 hown hK hP hD hS 0 rfl rfl 0 (by decide) (hts (.fieldLink RX0 9 "CraneReach$Plan" "moves" "[I") (by decide +kernel)) (fun _ h9 => h9) rfl hin rfl (by decide +kernel) rfl rfl (Nat.le_of_ble_eq_true rfl) dX0_init_10 (fun H locs hP hD hS => ?_)
  have hP : va_P D vwCl [(h, .inr (0, [.ref o9, .null, .int 0])), (o9, .inl (cI, 224, .inl (fun _ => 0)))] H := hP
  have hD : va_D A [(h, .inr (0, [.ref o9, .null, .int 0])), (o9, .inl (cI, 224, .inl (fun _ => 0)))] := hD
  refine lv_aload_n hx hb dX0_init_13 rfl (lv_at hl 0 rfl) ?_
  refine lv_sipush (v := 224) hx hb dX0_init_14 (by decide) ?_
  refine va_newa (atype := .int) (ty := .int) (a0 := (224, .inl (fun _ => 0))) (N' := 224) hx hb (hts (.arrayClass .int) (by decide +kernel)) rfl hK hP hD hS hA (fun _ => rfl) (by decide) (by decide) (Nat.le_of_ble_eq_true rfl) (Nat.le_of_ble_eq_true rfl) (Nat.le_of_ble_eq_true rfl) dX0_init_17 (fun q9 cA H hK hP hD hS => ?_)
  have eA : cA = cI := Option.some.inj ((hK.2 1 _ rfl).2.symm.trans (hK.2 0 _ rfl).2)
  rw [eA] at hP hD
  have hK := hK.sub (tys' := [(cI, .int)]) [0] rfl
  have hP : va_P D vwCl [(h, .inr (0, [.ref o9, .null, .int 0])), (o9, .inl (cI, 224, .inl (fun _ => 0))), (q9, .inl (cI, 224, .inl (fun _ => 0)))] H := hP
  have hD : va_D A [(h, .inr (0, [.ref o9, .null, .int 0])), (o9, .inl (cI, 224, .inl (fun _ => 0))), (q9, .inl (cI, 224, .inl (fun _ => 0)))] := hD
  refine va_putF (D := D) (ci := 0) (v := .ref q9) (ty := .array .int) (C := RX0) (T := TX0) (N := 3) hx hb hts hiX0 tyX0 tyX0_ok nmX0 hown hK hP hD hS 0 rfl rfl 1 (by decide) (hts (.fieldLink RX0 15 "CraneReach$Plan" "found" "[I") (by decide +kernel)) (fun _ h9 => h9) rfl hin rfl (by decide +kernel) rfl rfl (Nat.le_of_ble_eq_true rfl) dX0_init_19 (fun H locs hP hD hS => ?_)
  have hP : va_P D vwCl [(h, .inr (0, [.ref o9, .ref q9, .int 0])), (o9, .inl (cI, 224, .inl (fun _ => 0))), (q9, .inl (cI, 224, .inl (fun _ => 0)))] H := hP
  have hD : va_D A [(h, .inr (0, [.ref o9, .ref q9, .int 0])), (o9, .inl (cI, 224, .inl (fun _ => 0))), (q9, .inl (cI, 224, .inl (fun _ => 0)))] := hD
  exact W.vret hx hb hRt (fun t ht hW => ⟨⟨rfl, by rw [ht]; exact ⟨_, _, hP, hD⟩⟩, hS.F ht⟩) hS.2.2 dX0_init_22
set_option maxHeartbeats 4000000 in
set_option maxRecDepth 100000 in
/-- CraneReach() -/
theorem k_X_init (l : Launch) (D : va_G) (L0 : Nat) (cI : ClassId) (x : Nat) (sz : Nat) : Met l yX2_init wsX2_init ({ frames := 2, cells := 9, slots := 521, locals := 33 }) (cPz L0 D [(cI, .int)] [(x, .inr (2, [.null, .null, .null, .int 0, .int 0, .int 0, .int 0, .int 0, .int 0]))] [.ref x] sz) (cB none (fun H => ∃ rg ro rl tr t0 t1 pn pm pf : Nat, va_P D vwCl [(x, .inr (2, [.ref rg, .ref tr, .ref pn, .int (nI 0), .int (nI 3), .int 0, .int 0, .int 0, .int 0])), (rg, .inr (1, [.ref ro, .ref rl, .int 0])), (ro, .inl (cI, 4, .inl (fun _ => 0))), (rl, .inl (cI, 28, .inl (sh lim0))), (tr, .inr (1, [.ref t0, .ref t1, .int 0])), (t0, .inl (cI, 4, .inl (fun _ => 0))), (t1, .inl (cI, 28, .inl (sh lim0))), (pn, .inr (0, [.ref pm, .ref pf, .int 0])), (pm, .inl (cI, 224, .inl (fun _ => 0))), (pf, .inl (cI, 224, .inl (fun _ => 0)))] H ∧ va_D (va_A [(x, .inr (2, [.null, .null, .null, .int 0, .int 0, .int 0, .int 0, .int 0, .int 0]))] sz) [(x, .inr (2, [.ref rg, .ref tr, .ref pn, .int (nI 0), .int (nI 3), .int 0, .int 0, .int 0, .int 0])), (rg, .inr (1, [.ref ro, .ref rl, .int 0])), (ro, .inl (cI, 4, .inl (fun _ => 0))), (rl, .inl (cI, 28, .inl (sh lim0))), (tr, .inr (1, [.ref t0, .ref t1, .int 0])), (t0, .inl (cI, 4, .inl (fun _ => 0))), (t1, .inl (cI, 28, .inl (sh lim0))), (pn, .inr (0, [.ref pm, .ref pf, .int 0])), (pm, .inl (cI, 224, .inl (fun _ => 0))), (pf, .inl (cI, 224, .inl (fun _ => 0)))]) (va_A [(x, .inr (2, [.null, .null, .null, .int 0, .int 0, .int 0, .int 0, .int 0, .int 0]))] sz)) 9 521 (va_A [(x, .inr (2, [.null, .null, .null, .int 0, .int 0, .int 0, .int 0, .int 0, .int 0]))] sz) := by
  refine Met.ofW (cc := cX2_init) (maxL := 1) (ret := none) (by decide) rfl ?_
  intro p e s m args below meth c s₁ B hml hv
  obtain ⟨⟨rfl, hP, hK, hD0, hE0⟩, rfl⟩ := hv
  have hx := B.exec
  have hb := B.bytes
  have hRt := B.returns
  have hts := atoms_spec (ws := wsX2_init) B.pre
  have hown : s.vm.findClass RX2 = some m.cls := findClass_of_methodNamed B.named
  have hlocks := B.notSynchronized
  have hin : meth.name = "<init>" := (name_of_methodNamed B.named B.method).1
  have hAL : ∀ z9 : Nat, va_A [(x, .inr (2, [.null, .null, .null, .int 0, .int 0, .int 0, .int 0, .int 0, .int 0]))] s.heap.size z9 → L0 ≤ z9 := fun z9 h9 => h9.elim (fun ⟨k9, e9, h8⟩ => hD0.2 k9 (z9, e9) h8) (fun h8 => Nat.le_trans hE0.1 h8)
  have hD : va_D (va_A [(x, .inr (2, [.null, .null, .null, .int 0, .int 0, .int 0, .int 0, .int 0, .int 0]))] s.heap.size) [(x, .inr (2, [.null, .null, .null, .int 0, .int 0, .int 0, .int 0, .int 0, .int 0]))] := hD0.self
  have hA : ∀ z9 : Nat, s.heap.size ≤ z9 → va_A [(x, .inr (2, [.null, .null, .null, .int 0, .int 0, .int 0, .int 0, .int 0, .int 0]))] s.heap.size z9 := fun z9 h9 => Or.inr h9
  generalize hAe : va_A [(x, .inr (2, [.null, .null, .null, .int 0, .int 0, .int 0, .int 0, .int 0, .int 0]))] s.heap.size = A at hD hAL hA ⊢
  have hS : va_S A s.heap s.heap [] := va_S.rf
  have hiX2 : ∀ w ∈ u_ws RX2 TX2 9, w ∈ wsX2_init := by decide +kernel
  have hiX1 : ∀ w ∈ u_ws RX1 TX1 3, w ∈ wsX2_init := by decide +kernel
  have hiX0 : ∀ w ∈ u_ws RX0 TX0 3, w ∈ wsX2_init := by decide +kernel
  have hl := lv_entry ([.ref x]) (n := 1) (Nat.le_of_ble_eq_true rfl)
  rw [lg_entry_eq]
  generalize (lg_sl ([.ref x]) ++ List.replicate (1 - (lg_sl ([.ref x])).length) Slot.unset).toArray = ls at hl ⊢
  have hl : lv_has ls 1 [(0, .ref x)] := hl
  refine lv_aload_n hx hb dX2_init_0 rfl (lv_at hl 0 rfl) ?_
  refine W.objInit hx hb hown (hts (.methodLink RX2 3 objectInit) (by decide +kernel)) (hts (.instanceMethod objectInit) (by decide +kernel)) (hts (.code objectInit ⟨#[0xb1]⟩ 1 none) (by decide +kernel)) rfl (by rw [hml]; exact hl.1) rfl dX2_init_1 (Nat.le_of_ble_eq_true rfl) (Nat.le_of_ble_eq_true rfl) ?_
  refine W.eq (g2 := F0 m 4 ls []) rfl ?_
  refine lv_aload_n hx hb dX2_init_4 rfl (lv_at hl 0 rfl) ?_
  refine va_new (D := D) (ci := 1) (fs := [.null, .null, .int 0]) (C := RX1) (T := TX1) (N := 3) hx hb hts hiX1 tyX1 tyX1_ok hown (hts (.classLink RX2 9 RX1) (by decide +kernel)) (hts (.instantiable RX1 3) (by decide +kernel)) (hts (.initialized RX1) (by decide +kernel)) hK hP hD hS hA rfl (fun j hj => by rcases (show j = 0 ∨ j = 1 ∨ j = 2 by omega) with rfl | rfl | rfl <;> rfl) (Nat.le_of_ble_eq_true rfl) (Nat.le_of_ble_eq_true rfl) dX2_init_5 (fun rg H hP hD hS => ?_)
  have hP : va_P D vwCl [(x, .inr (2, [.null, .null, .null, .int 0, .int 0, .int 0, .int 0, .int 0, .int 0])), (rg, .inr (1, [.null, .null, .int 0]))] H := hP
  have hD : va_D A [(x, .inr (2, [.null, .null, .null, .int 0, .int 0, .int 0, .int 0, .int 0, .int 0])), (rg, .inr (1, [.null, .null, .int 0]))] := hD
  refine lv_dup hx hb dX2_init_8 rfl ?_
  have hPc := hP.sub (ws' := [(rg, .inr (1, [.null, .null, .int 0]))]) [1] rfl
  have hDc : va_D (fun q : Nat => L0 ≤ q) [(rg, .inr (1, [.null, .null, .int 0]))] := (hD.sub (ws' := [(rg, .inr (1, [.null, .null, .int 0]))]) [1] (by decide) rfl).weaken (fun _ z9 _ h9 => hAL _ h9)
  have hFc := va_free (wc := [(rg, .inr (1, [.null, .null, .int 0]))]) hD hS hA [1] rfl
  refine c_callB (va_runI (As := []) (rest := [.ref rg, .ref x]) ⟨hx, hb, hml, hown, hts⟩ (k_Rig_init l D L0 cI rg H.size) (cwI 0 hts gX2_init_X1_init rfl rfl rfl (hts (.initialized RX1) (by decide +kernel)) (hts (.methodLink RX2 11 yX1_init) (by decide +kernel)) (hts (.instanceMethod yX1_init) (by decide +kernel)) rfl (by decide +kernel) ⟨Nat.le_of_ble_eq_true rfl, Nat.le_of_ble_eq_true rfl⟩) ⟨cPz_blind, cPz_of hPc hK hDc (kE_at hE0 hAL hS)⟩ rfl rfl hl.1 rfl (lv_room (Nat.le_of_ble_eq_true rfl)) dX2_init_9 ⟨Nat.le_of_ble_eq_true rfl, Nat.le_of_ble_eq_true rfl⟩) hS (fun z9 _ h9 => hFc z9 h9) hFc (fun H1 locs hB hz1 hk1 hS => ?_)
  obtain ⟨ro, rl, hB⟩ := hB
  obtain ⟨hP, hD⟩ := va_join (wr := [(x, .inr (2, [.null, .null, .null, .int 0, .int 0, .int 0, .int 0, .int 0, .int 0]))]) (w1 := [(rg, .inr (1, [.ref ro, .ref rl, .int 0])), (ro, .inl (cI, 4, .inl (fun _ => 0))), (rl, .inl (cI, 28, .inl (sh lim0)))]) hP hD [1] [0] rfl rfl (by decide) (by decide) hk1 hFc hB.1 hB.2
  generalize H1 = H at hP hS ⊢
  have hP : va_P D vwCl [(x, .inr (2, [.null, .null, .null, .int 0, .int 0, .int 0, .int 0, .int 0, .int 0])), (rg, .inr (1, [.ref ro, .ref rl, .int 0])), (ro, .inl (cI, 4, .inl (fun _ => 0))), (rl, .inl (cI, 28, .inl (sh lim0)))] H := hP
  have hD : va_D A [(x, .inr (2, [.null, .null, .null, .int 0, .int 0, .int 0, .int 0, .int 0, .int 0])), (rg, .inr (1, [.ref ro, .ref rl, .int 0])), (ro, .inl (cI, 4, .inl (fun _ => 0))), (rl, .inl (cI, 28, .inl (sh lim0)))] := hD
  show W _ _ _ _ _ _ _ _ _ _ _ _ _ _ _ (F0 m 12 ls [.ref rg, .ref x])
  refine va_putF (D := D) (ci := 2) (v := .ref rg) (ty := .object "CraneReach$Rig") (C := RX2) (T := TX2) (N := 9) hx hb hts hiX2 tyX2 tyX2_ok nmX2 hown hK hP hD hS 0 rfl rfl 0 (by decide) (hts (.fieldLink RX2 12 "CraneReach" "rig" "LCraneReach$Rig;") (by decide +kernel)) (fun _ h9 => h9) rfl hin rfl (by decide +kernel) rfl rfl (Nat.le_of_ble_eq_true rfl) dX2_init_12 (fun H locs hP hD hS => ?_)
  have hP : va_P D vwCl [(x, .inr (2, [.ref rg, .null, .null, .int 0, .int 0, .int 0, .int 0, .int 0, .int 0])), (rg, .inr (1, [.ref ro, .ref rl, .int 0])), (ro, .inl (cI, 4, .inl (fun _ => 0))), (rl, .inl (cI, 28, .inl (sh lim0)))] H := hP
  have hD : va_D A [(x, .inr (2, [.ref rg, .null, .null, .int 0, .int 0, .int 0, .int 0, .int 0, .int 0])), (rg, .inr (1, [.ref ro, .ref rl, .int 0])), (ro, .inl (cI, 4, .inl (fun _ => 0))), (rl, .inl (cI, 28, .inl (sh lim0)))] := hD
  refine lv_aload_n hx hb dX2_init_15 rfl (lv_at hl 0 rfl) ?_
  refine va_new (D := D) (ci := 1) (fs := [.null, .null, .int 0]) (C := RX1) (T := TX1) (N := 3) hx hb hts hiX1 tyX1 tyX1_ok hown (hts (.classLink RX2 9 RX1) (by decide +kernel)) (hts (.instantiable RX1 3) (by decide +kernel)) (hts (.initialized RX1) (by decide +kernel)) hK hP hD hS hA rfl (fun j hj => by rcases (show j = 0 ∨ j = 1 ∨ j = 2 by omega) with rfl | rfl | rfl <;> rfl) (Nat.le_of_ble_eq_true rfl) (Nat.le_of_ble_eq_true rfl) dX2_init_16 (fun tr H hP hD hS => ?_)
  have hP : va_P D vwCl [(x, .inr (2, [.ref rg, .null, .null, .int 0, .int 0, .int 0, .int 0, .int 0, .int 0])), (rg, .inr (1, [.ref ro, .ref rl, .int 0])), (ro, .inl (cI, 4, .inl (fun _ => 0))), (rl, .inl (cI, 28, .inl (sh lim0))), (tr, .inr (1, [.null, .null, .int 0]))] H := hP
  have hD : va_D A [(x, .inr (2, [.ref rg, .null, .null, .int 0, .int 0, .int 0, .int 0, .int 0, .int 0])), (rg, .inr (1, [.ref ro, .ref rl, .int 0])), (ro, .inl (cI, 4, .inl (fun _ => 0))), (rl, .inl (cI, 28, .inl (sh lim0))), (tr, .inr (1, [.null, .null, .int 0]))] := hD
  refine lv_dup hx hb dX2_init_19 rfl ?_
  have hPc := hP.sub (ws' := [(tr, .inr (1, [.null, .null, .int 0]))]) [4] rfl
  have hDc : va_D (fun q : Nat => L0 ≤ q) [(tr, .inr (1, [.null, .null, .int 0]))] := (hD.sub (ws' := [(tr, .inr (1, [.null, .null, .int 0]))]) [4] (by decide) rfl).weaken (fun _ z9 _ h9 => hAL _ h9)
  have hFc := va_free (wc := [(tr, .inr (1, [.null, .null, .int 0]))]) hD hS hA [4] rfl
  refine c_callB (va_runI (As := []) (rest := [.ref tr, .ref x]) ⟨hx, hb, hml, hown, hts⟩ (k_Rig_init l D L0 cI tr H.size) (cwI 0 hts gX2_init_X1_init rfl rfl rfl (hts (.initialized RX1) (by decide +kernel)) (hts (.methodLink RX2 11 yX1_init) (by decide +kernel)) (hts (.instanceMethod yX1_init) (by decide +kernel)) rfl (by decide +kernel) ⟨Nat.le_of_ble_eq_true rfl, Nat.le_of_ble_eq_true rfl⟩) ⟨cPz_blind, cPz_of hPc hK hDc (kE_at hE0 hAL hS)⟩ rfl rfl hl.1 rfl (lv_room (Nat.le_of_ble_eq_true rfl)) dX2_init_20 ⟨Nat.le_of_ble_eq_true rfl, Nat.le_of_ble_eq_true rfl⟩) hS (fun z9 _ h9 => hFc z9 h9) hFc (fun H1 locs hB hz1 hk1 hS => ?_)
  obtain ⟨t0, t1, hB⟩ := hB
  obtain ⟨hP, hD⟩ := va_join (wr := [(x, .inr (2, [.ref rg, .null, .null, .int 0, .int 0, .int 0, .int 0, .int 0, .int 0])), (rg, .inr (1, [.ref ro, .ref rl, .int 0])), (ro, .inl (cI, 4, .inl (fun _ => 0))), (rl, .inl (cI, 28, .inl (sh lim0)))]) (w1 := [(tr, .inr (1, [.ref t0, .ref t1, .int 0])), (t0, .inl (cI, 4, .inl (fun _ => 0))), (t1, .inl (cI, 28, .inl (sh lim0)))]) hP hD [4] [0, 1, 2, 3] rfl rfl (by decide) (by decide) hk1 hFc hB.1 hB.2
  generalize H1 = H at hP hS ⊢
  have hP : va_P D vwCl [(x, .inr (2, [.ref rg, .null, .null, .int 0, .int 0, .int 0, .int 0, .int 0, .int 0])), (rg, .inr (1, [.ref ro, .ref rl, .int 0])), (ro, .inl (cI, 4, .inl (fun _ => 0))), (rl, .inl (cI, 28, .inl (sh lim0))), (tr, .inr (1, [.ref t0, .ref t1, .int 0])), (t0, .inl (cI, 4, .inl (fun _ => 0))), (t1, .inl (cI, 28, .inl (sh lim0)))] H := hP
  have hD : va_D A [(x, .inr (2, [.ref rg, .null, .null, .int 0, .int 0, .int 0, .int 0, .int 0, .int 0])), (rg, .inr (1, [.ref ro, .ref rl, .int 0])), (ro, .inl (cI, 4, .inl (fun _ => 0))), (rl, .inl (cI, 28, .inl (sh lim0))), (tr, .inr (1, [.ref t0, .ref t1, .int 0])), (t0, .inl (cI, 4, .inl (fun _ => 0))), (t1, .inl (cI, 28, .inl (sh lim0)))] := hD
  show W _ _ _ _ _ _ _ _ _ _ _ _ _ _ _ (F0 m 23 ls [.ref tr, .ref x])
  refine va_putF (D := D) (ci := 2) (v := .ref tr) (ty := .object "CraneReach$Rig") (C := RX2) (T := TX2) (N := 9) hx hb hts hiX2 tyX2 tyX2_ok nmX2 hown hK hP hD hS 0 rfl rfl 1 (by decide) (hts (.fieldLink RX2 16 "CraneReach" "trial" "LCraneReach$Rig;") (by decide +kernel)) (fun _ h9 => h9) rfl hin rfl (by decide +kernel) rfl rfl (Nat.le_of_ble_eq_true rfl) dX2_init_23 (fun H locs hP hD hS => ?_)
  have hP : va_P D vwCl [(x, .inr (2, [.ref rg, .ref tr, .null, .int 0, .int 0, .int 0, .int 0, .int 0, .int 0])), (rg, .inr (1, [.ref ro, .ref rl, .int 0])), (ro, .inl (cI, 4, .inl (fun _ => 0))), (rl, .inl (cI, 28, .inl (sh lim0))), (tr, .inr (1, [.ref t0, .ref t1, .int 0])), (t0, .inl (cI, 4, .inl (fun _ => 0))), (t1, .inl (cI, 28, .inl (sh lim0)))] H := hP
  have hD : va_D A [(x, .inr (2, [.ref rg, .ref tr, .null, .int 0, .int 0, .int 0, .int 0, .int 0, .int 0])), (rg, .inr (1, [.ref ro, .ref rl, .int 0])), (ro, .inl (cI, 4, .inl (fun _ => 0))), (rl, .inl (cI, 28, .inl (sh lim0))), (tr, .inr (1, [.ref t0, .ref t1, .int 0])), (t0, .inl (cI, 4, .inl (fun _ => 0))), (t1, .inl (cI, 28, .inl (sh lim0)))] := hD
  refine lv_aload_n hx hb dX2_init_26 rfl (lv_at hl 0 rfl) ?_
  refine va_new (D := D) (ci := 0) (fs := [.null, .null, .int 0]) (C := RX0) (T := TX0) (N := 3) hx hb hts hiX0 tyX0 tyX0_ok hown (hts (.classLink RX2 19 RX0) (by decide +kernel)) (hts (.instantiable RX0 3) (by decide +kernel)) (hts (.initialized RX0) (by decide +kernel)) hK hP hD hS hA rfl (fun j hj => by rcases (show j = 0 ∨ j = 1 ∨ j = 2 by omega) with rfl | rfl | rfl <;> rfl) (Nat.le_of_ble_eq_true rfl) (Nat.le_of_ble_eq_true rfl) dX2_init_27 (fun pn H hP hD hS => ?_)
  have hP : va_P D vwCl [(x, .inr (2, [.ref rg, .ref tr, .null, .int 0, .int 0, .int 0, .int 0, .int 0, .int 0])), (rg, .inr (1, [.ref ro, .ref rl, .int 0])), (ro, .inl (cI, 4, .inl (fun _ => 0))), (rl, .inl (cI, 28, .inl (sh lim0))), (tr, .inr (1, [.ref t0, .ref t1, .int 0])), (t0, .inl (cI, 4, .inl (fun _ => 0))), (t1, .inl (cI, 28, .inl (sh lim0))), (pn, .inr (0, [.null, .null, .int 0]))] H := hP
  have hD : va_D A [(x, .inr (2, [.ref rg, .ref tr, .null, .int 0, .int 0, .int 0, .int 0, .int 0, .int 0])), (rg, .inr (1, [.ref ro, .ref rl, .int 0])), (ro, .inl (cI, 4, .inl (fun _ => 0))), (rl, .inl (cI, 28, .inl (sh lim0))), (tr, .inr (1, [.ref t0, .ref t1, .int 0])), (t0, .inl (cI, 4, .inl (fun _ => 0))), (t1, .inl (cI, 28, .inl (sh lim0))), (pn, .inr (0, [.null, .null, .int 0]))] := hD
  refine lv_dup hx hb dX2_init_30 rfl ?_
  have hPc := hP.sub (ws' := [(pn, .inr (0, [.null, .null, .int 0]))]) [7] rfl
  have hDc : va_D (fun q : Nat => L0 ≤ q) [(pn, .inr (0, [.null, .null, .int 0]))] := (hD.sub (ws' := [(pn, .inr (0, [.null, .null, .int 0]))]) [7] (by decide) rfl).weaken (fun _ z9 _ h9 => hAL _ h9)
  have hFc := va_free (wc := [(pn, .inr (0, [.null, .null, .int 0]))]) hD hS hA [7] rfl
  refine c_callB (va_runIN (As := []) (rest := [.ref pn, .ref x]) ⟨hx, hb, hml, hown, hts⟩ (k_Plan_init l D L0 cI pn H.size) (⟨va_cnB 0 hts gX2_init_X0_init_n21 rfl rfl rfl (hE0.2.2.2.2.2.1.1) (hts (.initialized RX0) (by decide +kernel)) (by decide +kernel) ⟨Nat.le_of_ble_eq_true rfl, Nat.le_of_ble_eq_true rfl⟩, rfl, hts (.instanceMethod yX0_init) (by decide +kernel)⟩) ⟨cPz_blind, cPz_of hPc hK hDc (kE_at hE0 hAL hS)⟩ rfl rfl hl.1 rfl (lv_room (Nat.le_of_ble_eq_true rfl)) dX2_init_31 ⟨Nat.le_of_ble_eq_true rfl, Nat.le_of_ble_eq_true rfl⟩) hS (fun z9 _ h9 => hFc z9 h9) hFc (fun H1 locs hB hz1 hk1 hS => ?_)
  obtain ⟨pm, pf, hB⟩ := hB
  obtain ⟨hP, hD⟩ := va_join (wr := [(x, .inr (2, [.ref rg, .ref tr, .null, .int 0, .int 0, .int 0, .int 0, .int 0, .int 0])), (rg, .inr (1, [.ref ro, .ref rl, .int 0])), (ro, .inl (cI, 4, .inl (fun _ => 0))), (rl, .inl (cI, 28, .inl (sh lim0))), (tr, .inr (1, [.ref t0, .ref t1, .int 0])), (t0, .inl (cI, 4, .inl (fun _ => 0))), (t1, .inl (cI, 28, .inl (sh lim0)))]) (w1 := [(pn, .inr (0, [.ref pm, .ref pf, .int 0])), (pm, .inl (cI, 224, .inl (fun _ => 0))), (pf, .inl (cI, 224, .inl (fun _ => 0)))]) hP hD [7] [0, 1, 2, 3, 4, 5, 6] rfl rfl (by decide) (by decide) hk1 hFc hB.1 hB.2
  generalize H1 = H at hP hS ⊢
  have hP : va_P D vwCl [(x, .inr (2, [.ref rg, .ref tr, .null, .int 0, .int 0, .int 0, .int 0, .int 0, .int 0])), (rg, .inr (1, [.ref ro, .ref rl, .int 0])), (ro, .inl (cI, 4, .inl (fun _ => 0))), (rl, .inl (cI, 28, .inl (sh lim0))), (tr, .inr (1, [.ref t0, .ref t1, .int 0])), (t0, .inl (cI, 4, .inl (fun _ => 0))), (t1, .inl (cI, 28, .inl (sh lim0))), (pn, .inr (0, [.ref pm, .ref pf, .int 0])), (pm, .inl (cI, 224, .inl (fun _ => 0))), (pf, .inl (cI, 224, .inl (fun _ => 0)))] H := hP
  have hD : va_D A [(x, .inr (2, [.ref rg, .ref tr, .null, .int 0, .int 0, .int 0, .int 0, .int 0, .int 0])), (rg, .inr (1, [.ref ro, .ref rl, .int 0])), (ro, .inl (cI, 4, .inl (fun _ => 0))), (rl, .inl (cI, 28, .inl (sh lim0))), (tr, .inr (1, [.ref t0, .ref t1, .int 0])), (t0, .inl (cI, 4, .inl (fun _ => 0))), (t1, .inl (cI, 28, .inl (sh lim0))), (pn, .inr (0, [.ref pm, .ref pf, .int 0])), (pm, .inl (cI, 224, .inl (fun _ => 0))), (pf, .inl (cI, 224, .inl (fun _ => 0)))] := hD
  show W _ _ _ _ _ _ _ _ _ _ _ _ _ _ _ (F0 m 34 ls [.ref pn, .ref x])
  refine va_putF (D := D) (ci := 2) (v := .ref pn) (ty := .object "CraneReach$Plan") (C := RX2) (T := TX2) (N := 9) hx hb hts hiX2 tyX2 tyX2_ok nmX2 hown hK hP hD hS 0 rfl rfl 2 (by decide) (hts (.fieldLink RX2 22 "CraneReach" "plan" "LCraneReach$Plan;") (by decide +kernel)) (fun _ h9 => h9) rfl hin rfl (by decide +kernel) rfl rfl (Nat.le_of_ble_eq_true rfl) dX2_init_34 (fun H locs hP hD hS => ?_)
  have hP : va_P D vwCl [(x, .inr (2, [.ref rg, .ref tr, .ref pn, .int 0, .int 0, .int 0, .int 0, .int 0, .int 0])), (rg, .inr (1, [.ref ro, .ref rl, .int 0])), (ro, .inl (cI, 4, .inl (fun _ => 0))), (rl, .inl (cI, 28, .inl (sh lim0))), (tr, .inr (1, [.ref t0, .ref t1, .int 0])), (t0, .inl (cI, 4, .inl (fun _ => 0))), (t1, .inl (cI, 28, .inl (sh lim0))), (pn, .inr (0, [.ref pm, .ref pf, .int 0])), (pm, .inl (cI, 224, .inl (fun _ => 0))), (pf, .inl (cI, 224, .inl (fun _ => 0)))] H := hP
  have hD : va_D A [(x, .inr (2, [.ref rg, .ref tr, .ref pn, .int 0, .int 0, .int 0, .int 0, .int 0, .int 0])), (rg, .inr (1, [.ref ro, .ref rl, .int 0])), (ro, .inl (cI, 4, .inl (fun _ => 0))), (rl, .inl (cI, 28, .inl (sh lim0))), (tr, .inr (1, [.ref t0, .ref t1, .int 0])), (t0, .inl (cI, 4, .inl (fun _ => 0))), (t1, .inl (cI, 28, .inl (sh lim0))), (pn, .inr (0, [.ref pm, .ref pf, .int 0])), (pm, .inl (cI, 224, .inl (fun _ => 0))), (pf, .inl (cI, 224, .inl (fun _ => 0)))] := hD
  refine lv_aload_n hx hb dX2_init_37 rfl (lv_at hl 0 rfl) ?_
  refine lv_iconst (v := 3) hx hb dX2_init_38 (by decide) ?_
  refine va_put (D := D) (ci := 2) (v := .int 3) (ty := .int) (C := RX2) (T := TX2) (N := 9) hx hb hts hiX2 tyX2 tyX2_ok nmX2 hown hK hP hD hS 0 rfl rfl 4 (by decide) (hts (.fieldLink RX2 26 "CraneReach" "reach" "I") (by decide +kernel)) (fun _ h9 => h9) rfl (by decide +kernel) rfl rfl (Nat.le_of_ble_eq_true rfl) dX2_init_39 (fun H locs hP hD hS => ?_)
  have hP : va_P D vwCl [(x, .inr (2, [.ref rg, .ref tr, .ref pn, .int 0, .int 3, .int 0, .int 0, .int 0, .int 0])), (rg, .inr (1, [.ref ro, .ref rl, .int 0])), (ro, .inl (cI, 4, .inl (fun _ => 0))), (rl, .inl (cI, 28, .inl (sh lim0))), (tr, .inr (1, [.ref t0, .ref t1, .int 0])), (t0, .inl (cI, 4, .inl (fun _ => 0))), (t1, .inl (cI, 28, .inl (sh lim0))), (pn, .inr (0, [.ref pm, .ref pf, .int 0])), (pm, .inl (cI, 224, .inl (fun _ => 0))), (pf, .inl (cI, 224, .inl (fun _ => 0)))] H := hP
  have hD : va_D A [(x, .inr (2, [.ref rg, .ref tr, .ref pn, .int 0, .int 3, .int 0, .int 0, .int 0, .int 0])), (rg, .inr (1, [.ref ro, .ref rl, .int 0])), (ro, .inl (cI, 4, .inl (fun _ => 0))), (rl, .inl (cI, 28, .inl (sh lim0))), (tr, .inr (1, [.ref t0, .ref t1, .int 0])), (t0, .inl (cI, 4, .inl (fun _ => 0))), (t1, .inl (cI, 28, .inl (sh lim0))), (pn, .inr (0, [.ref pm, .ref pf, .int 0])), (pm, .inl (cI, 224, .inl (fun _ => 0))), (pf, .inl (cI, 224, .inl (fun _ => 0)))] := hD
  exact W.vret hx hb hRt (fun t ht hW => ⟨⟨rfl, by rw [ht]; exact ⟨_, _, _, _, _, _, _, _, _, hP, hD⟩⟩, hS.F ht⟩) hS.2.2 dX2_init_42
set_option maxHeartbeats 4000000 in
set_option maxRecDepth 100000 in
/-- meanLoad() -/
theorem k_meanLoad (l : Launch) (D : va_G) (L0 : Nat) (x rg tr pn d r : Nat) (ld li tl mo : Int32) : MetD lw_cs l yX2_meanLoad wsX2_meanLoad ({ frames := 0, cells := 0, slots := 0, locals := 0 }) (cP L0 D [] [(x, .inr (2, [.ref rg, .ref tr, .ref pn, .int (nI d), .int (nI r), .int ld, .int li, .int tl, .int mo]))] [.ref x]) (cDd (mnS li tl)) 0 0 (fun _ => False) := by
  refine MetD.ofW (cc := cX2_meanLoad) (maxL := 1) (ret := (some .double)) (by decide) rfl ?_
  intro p e s m args below meth c s₁ B hml hv hd0
  obtain ⟨rfl, hP, hK, hD0, hE0⟩ := hv
  have hx := B.exec
  have hb := B.bytes
  have hRt := B.returns
  have hts := dr_words (atoms_spec (ws := wsX2_meanLoad) B.pre) s.drawn
  have hown : s.vm.findClass RX2 = some m.cls := findClass_of_methodNamed B.named
  have hlocks := B.notSynchronized
  have hAL : ∀ z9 : Nat, (fun _ : Nat => False) z9 → L0 ≤ z9 := fun z9 h9 => False.elim h9
  generalize hAe : (fun _ : Nat => False) = A at hAL ⊢
  have hS : va_S A s.heap s.heap [] := va_S.rf
  have hiX2 : ∀ w ∈ u_ws RX2 TX2 9, w ∈ wsX2_meanLoad := by decide +kernel
  have hl := lv_entry ([.ref x]) (n := 1) (Nat.le_of_ble_eq_true rfl)
  rw [lg_entry_eq]
  generalize (lg_sl ([.ref x]) ++ List.replicate (1 - (lg_sl ([.ref x])).length) Slot.unset).toArray = ls at hl ⊢
  have hl : lv_has ls 1 [(0, .ref x)] := hl
  refine lv_aload_n hx hb dX2_meanLoad_0 rfl (lv_at hl 0 rfl) ?_
  refine va_get (D := D) (ci := 2) (v := .int li) (C := RX2) (T := TX2) (N := 9) hx hb hts hiX2 hown hK hP 0 rfl rfl 6 (by decide) (hts (.fieldLink RX2 85 "CraneReach" "lifts" "I") (by decide +kernel)) (fun _ h9 => h9) rfl dX2_meanLoad_1 ?_
  refine lv_if_ne (tgt := 11) hx hb dX2_meanLoad_4 (by decide) (fun c_48 => ?_) (fun c_48 => ?_)
  · refine lv_aload_n hx hb dX2_meanLoad_11 rfl (lv_at hl 0 rfl) ?_
    refine va_get (D := D) (ci := 2) (v := .int tl) (C := RX2) (T := TX2) (N := 9) hx hb hts hiX2 hown hK hP 0 rfl rfl 7 (by decide) (hts (.fieldLink RX2 88 "CraneReach" "tonsLifted" "I") (by decide +kernel)) (fun _ h9 => h9) rfl dX2_meanLoad_12 ?_
    refine lv_i2d hx hb dX2_meanLoad_15 ?_
    refine lv_aload_n hx hb dX2_meanLoad_16 rfl (lv_at hl 0 rfl) ?_
    refine va_get (D := D) (ci := 2) (v := .int li) (C := RX2) (T := TX2) (N := 9) hx hb hts hiX2 hown hK hP 0 rfl rfl 6 (by decide) (hts (.fieldLink RX2 85 "CraneReach" "lifts" "I") (by decide +kernel)) (fun _ h9 => h9) rfl dX2_meanLoad_17 ?_
    refine lv_i2d hx hb dX2_meanLoad_20 ?_
    refine lv_ddiv_any hd0 lw_bits hx hb dX2_meanLoad_21 (fun r1 d1 hal hd1 => ?_)
    refine W.endD hd1 ?_
    exact W.dret hx hb hRt (fun t ht hW => ⟨⟨r1, rfl, by rw [mnS, if_neg c_48]; exact hal⟩, ht⟩) hS.2.2 dX2_meanLoad_22
  · refine lv_dconst0 hx hb dX2_meanLoad_7 ?_
    refine lv_goto (tgt := 22) hx hb dX2_meanLoad_8 (by decide) ?_
    refine W.endD hd0 ?_
    exact W.dret hx hb hRt (fun t ht hW => ⟨⟨FP.dconst0, rfl, by rw [mnS, if_pos c_48]; exact alike64_refl _⟩, ht⟩) hS.2.2 dX2_meanLoad_22
