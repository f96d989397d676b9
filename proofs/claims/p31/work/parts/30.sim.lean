set_option maxHeartbeats 4000000 in
set_option maxRecDepth 100000 in
/-- Sim() -/
theorem s_init (l : Launch) (D : va_G) (L0 : Nat) (cI : ClassId) (sm : Nat) (sz : Nat) : Met l yX3_init wsX3_init ({ frames := 1, cells := 2, slots := 35, locals := 12 }) (cPz L0 D [(cI, .int)] [(sm, .inr (3, [.int 0, .int 0, .int 0, .int 0, .null, .null, .int 0, .int 0, .int 0]))] [.ref sm] sz) (cB none (fun H => ∃ so sq : Nat, va_P D vwCl [(sm, .inr (3, [.int 0, .int (nI 3), .int 0, .int 0, .ref so, .ref sq, .int 0, .int 0, .int 0])), (so, .inl (cI, 4, .inl (fun _ => 0))), (sq, .inl (cI, 31, .inl lim0))] H ∧ va_D (va_A [(sm, .inr (3, [.int 0, .int 0, .int 0, .int 0, .null, .null, .int 0, .int 0, .int 0]))] sz) [(sm, .inr (3, [.int 0, .int (nI 3), .int 0, .int 0, .ref so, .ref sq, .int 0, .int 0, .int 0])), (so, .inl (cI, 4, .inl (fun _ => 0))), (sq, .inl (cI, 31, .inl lim0))]) (va_A [(sm, .inr (3, [.int 0, .int 0, .int 0, .int 0, .null, .null, .int 0, .int 0, .int 0]))] sz)) 2 35 (va_A [(sm, .inr (3, [.int 0, .int 0, .int 0, .int 0, .null, .null, .int 0, .int 0, .int 0]))] sz) := by
  refine Met.ofW (cc := cX3_init) (maxL := 2) (ret := none) (by decide) rfl ?_
  intro p e s m args below meth c s₁ B hml hv
  obtain ⟨⟨rfl, hP, hK, hD0, hE0⟩, rfl⟩ := hv
  have hx := B.exec
  have hb := B.bytes
  have hRt := B.returns
  have hts := atoms_spec (ws := wsX3_init) B.pre
  have hown : s.vm.findClass RX3 = some m.cls := findClass_of_methodNamed B.named
  have hlocks := B.notSynchronized
  have hin : meth.name = "<init>" := (name_of_methodNamed B.named B.method).1
  have hAL : ∀ z9 : Nat, va_A [(sm, .inr (3, [.int 0, .int 0, .int 0, .int 0, .null, .null, .int 0, .int 0, .int 0]))] s.heap.size z9 → L0 ≤ z9 := fun z9 h9 => h9.elim (fun ⟨k9, e9, h8⟩ => hD0.2 k9 (z9, e9) h8) (fun h8 => Nat.le_trans hE0.1 h8)
  have hD : va_D (va_A [(sm, .inr (3, [.int 0, .int 0, .int 0, .int 0, .null, .null, .int 0, .int 0, .int 0]))] s.heap.size) [(sm, .inr (3, [.int 0, .int 0, .int 0, .int 0, .null, .null, .int 0, .int 0, .int 0]))] := hD0.self
  have hA : ∀ z9 : Nat, s.heap.size ≤ z9 → va_A [(sm, .inr (3, [.int 0, .int 0, .int 0, .int 0, .null, .null, .int 0, .int 0, .int 0]))] s.heap.size z9 := fun z9 h9 => Or.inr h9
  generalize hAe : va_A [(sm, .inr (3, [.int 0, .int 0, .int 0, .int 0, .null, .null, .int 0, .int 0, .int 0]))] s.heap.size = A at hD hAL hA ⊢
  have hS : va_S A s.heap s.heap [] := va_S.rf
  have hiX3 : ∀ w ∈ u_ws RX3 TX3 9, w ∈ wsX3_init := by decide +kernel
  have hl := lv_entry ([.ref sm]) (n := 2) (Nat.le_of_ble_eq_true rfl)
  rw [lg_entry_eq]
  generalize (lg_sl ([.ref sm]) ++ List.replicate (2 - (lg_sl ([.ref sm])).length) Slot.unset).toArray = ls at hl ⊢
  have hl : lv_has ls 2 [(0, .ref sm)] := hl
  refine lv_aload_n hx hb dX3_init_0 rfl (lv_at hl 0 rfl) ?_
  refine W.objInit hx hb hown (hts (.methodLink RX3 1 objectInit) (by decide +kernel)) (hts (.instanceMethod objectInit) (by decide +kernel)) (hts (.code objectInit ⟨#[0xb1]⟩ 1 none) (by decide +kernel)) rfl (by rw [hml]; exact hl.1) rfl dX3_init_1 (Nat.le_of_ble_eq_true rfl) (Nat.le_of_ble_eq_true rfl) ?_
  refine W.eq (g2 := F0 m 4 ls []) rfl ?_
  refine lv_aload_n hx hb dX3_init_4 rfl (lv_at hl 0 rfl) ?_
  refine lv_iconst (v := 3) hx hb dX3_init_5 (by decide) ?_
  refine va_put (D := D) (ci := 3) (v := .int 3) (ty := .int) (C := RX3) (T := TX3) (N := 9) hx hb hts hiX3 tyX3 tyX3_ok nmX3 hown hK hP hD hS 0 rfl rfl 1 (by decide) (hts (.fieldLink RX3 7 "CraneReachLaw$Sim" "reach" "I") (by decide +kernel)) (fun _ h9 => h9) rfl (by decide +kernel) rfl rfl (Nat.le_of_ble_eq_true rfl) dX3_init_6 (fun H locs hP hD hS => ?_)
  have hP : va_P D vwCl [(sm, .inr (3, [.int 0, .int 3, .int 0, .int 0, .null, .null, .int 0, .int 0, .int 0]))] H := hP
  have hD : va_D A [(sm, .inr (3, [.int 0, .int 3, .int 0, .int 0, .null, .null, .int 0, .int 0, .int 0]))] := hD
  refine lv_aload_n hx hb dX3_init_9 rfl (lv_at hl 0 rfl) ?_
  refine lv_iconst (v := 4) hx hb dX3_init_10 (by decide) ?_
  refine va_newa (atype := .int) (ty := .int) (a0 := (4, .inl (fun _ => 0))) (N' := 4) hx hb (hts (.arrayClass .int) (by decide +kernel)) rfl hK hP hD hS hA (fun _ => rfl) (by decide) (by decide) (Nat.le_of_ble_eq_true rfl) (Nat.le_of_ble_eq_true rfl) (Nat.le_of_ble_eq_true rfl) dX3_init_11 (fun so cA H hK hP hD hS => ?_)
  have eA : cA = cI := Option.some.inj ((hK.2 1 _ rfl).2.symm.trans (hK.2 0 _ rfl).2)
  rw [eA] at hP hD
  have hK := hK.sub (tys' := [(cI, .int)]) [0] rfl
  have hP : va_P D vwCl [(sm, .inr (3, [.int 0, .int 3, .int 0, .int 0, .null, .null, .int 0, .int 0, .int 0])), (so, .inl (cI, 4, .inl (fun _ => 0)))] H := hP
  have hD : va_D A [(sm, .inr (3, [.int 0, .int 3, .int 0, .int 0, .null, .null, .int 0, .int 0, .int 0])), (so, .inl (cI, 4, .inl (fun _ => 0)))] := hD
  refine va_put (D := D) (ci := 3) (v := .ref so) (ty := .array .int) (C := RX3) (T := TX3) (N := 9) hx hb hts hiX3 tyX3 tyX3_ok nmX3 hown hK hP hD hS 0 rfl rfl 4 (by decide) (hts (.fieldLink RX3 13 "CraneReachLaw$Sim" "out" "[I") (by decide +kernel)) (fun _ h9 => h9) rfl (by decide +kernel) rfl rfl (Nat.le_of_ble_eq_true rfl) dX3_init_13 (fun H locs hP hD hS => ?_)
  have hP : va_P D vwCl [(sm, .inr (3, [.int 0, .int 3, .int 0, .int 0, .ref so, .null, .int 0, .int 0, .int 0])), (so, .inl (cI, 4, .inl (fun _ => 0)))] H := hP
  have hD : va_D A [(sm, .inr (3, [.int 0, .int 3, .int 0, .int 0, .ref so, .null, .int 0, .int 0, .int 0])), (so, .inl (cI, 4, .inl (fun _ => 0)))] := hD
  refine lv_aload_n hx hb dX3_init_16 rfl (lv_at hl 0 rfl) ?_
  refine lv_bipush (v := 31) hx hb dX3_init_17 (by decide) ?_
  refine va_newa (atype := .int) (ty := .int) (a0 := (31, .inl (fun _ => 0))) (N' := 31) hx hb (hts (.arrayClass .int) (by decide +kernel)) rfl hK hP hD hS hA (fun _ => rfl) (by decide) (by decide) (Nat.le_of_ble_eq_true rfl) (Nat.le_of_ble_eq_true rfl) (Nat.le_of_ble_eq_true rfl) dX3_init_19 (fun sq cA H hK hP hD hS => ?_)
  have eA : cA = cI := Option.some.inj ((hK.2 1 _ rfl).2.symm.trans (hK.2 0 _ rfl).2)
  rw [eA] at hP hD
  have hK := hK.sub (tys' := [(cI, .int)]) [0] rfl
  have hP : va_P D vwCl [(sm, .inr (3, [.int 0, .int 3, .int 0, .int 0, .ref so, .null, .int 0, .int 0, .int 0])), (so, .inl (cI, 4, .inl (fun _ => 0))), (sq, .inl (cI, 31, .inl (fun _ => 0)))] H := hP
  have hD : va_D A [(sm, .inr (3, [.int 0, .int 3, .int 0, .int 0, .ref so, .null, .int 0, .int 0, .int 0])), (so, .inl (cI, 4, .inl (fun _ => 0))), (sq, .inl (cI, 31, .inl (fun _ => 0)))] := hD
  refine va_put (D := D) (ci := 3) (v := .ref sq) (ty := .array .int) (C := RX3) (T := TX3) (N := 9) hx hb hts hiX3 tyX3 tyX3_ok nmX3 hown hK hP hD hS 0 rfl rfl 5 (by decide) (hts (.fieldLink RX3 17 "CraneReachLaw$Sim" "limits" "[I") (by decide +kernel)) (fun _ h9 => h9) rfl (by decide +kernel) rfl rfl (Nat.le_of_ble_eq_true rfl) dX3_init_21 (fun H locs hP hD hS => ?_)
  have hP : va_P D vwCl [(sm, .inr (3, [.int 0, .int 3, .int 0, .int 0, .ref so, .ref sq, .int 0, .int 0, .int 0])), (so, .inl (cI, 4, .inl (fun _ => 0))), (sq, .inl (cI, 31, .inl (fun _ => 0)))] H := hP
  have hD : va_D A [(sm, .inr (3, [.int 0, .int 3, .int 0, .int 0, .ref so, .ref sq, .int 0, .int 0, .int 0])), (so, .inl (cI, 4, .inl (fun _ => 0))), (sq, .inl (cI, 31, .inl (fun _ => 0)))] := hD
  refine lv_iconst (v := 3) hx hb dX3_init_24 (by decide) ?_
  refine lv_istore_n (lv' := [(1, .int 3), (0, .ref sm)]) hx hb dX3_init_25 rfl hl (by decide) rfl (fun ls hl => ?_)
  have hP : va_P D vwCl [(sm, .inr (3, [.int 0, .int (nI 3), .int 0, .int 0, .ref so, .ref sq, .int 0, .int 0, .int 0])), (so, .inl (cI, 4, .inl (fun _ => 0))), (sq, .inl (cI, 31, .inl (fun _ => 0)))] H := hP
  have hD : va_D A [(sm, .inr (3, [.int 0, .int (nI 3), .int 0, .int 0, .ref so, .ref sq, .int 0, .int 0, .int 0])), (so, .inl (cI, 4, .inl (fun _ => 0))), (sq, .inl (cI, 31, .inl (fun _ => 0)))] := hD
  have loop : ∀ (n : Nat) (i : Nat) (gl : Nat → Int32) (H : Heap) (locs : List Loc) (ls : Array Slot), i + n = 31 → 3 ≤ i → (∀ j, j < i → gl j = lim0 j) → lv_has ls 2 [(1, .int (nI i)), (0, .ref sm)] → va_P D vwCl [(sm, .inr (3, [.int 0, .int (nI 3), .int 0, .int 0, .ref so, .ref sq, .int 0, .int 0, .int 0])), (so, .inl (cI, 4, .inl (fun _ => 0))), (sq, .inl (cI, 31, .inl gl))] H → va_D A [(sm, .inr (3, [.int 0, .int (nI 3), .int 0, .int 0, .ref so, .ref sq, .int 0, .int 0, .int 0])), (so, .inl (cI, 4, .inl (fun _ => 0))), (sq, .inl (cI, 31, .inl gl))] → va_S A s.heap H locs → W p l e (headSpec wsX3_init ({ frames := 1, cells := 2, slots := 35, locals := 12 })).room s m ([.ref sm]).toArray below meth c H locs (0 + 1 + 1) (0 + 4 + 31) (MQ below (cB none (fun H => ∃ so sq : Nat, va_P D vwCl [(sm, .inr (3, [.int 0, .int (nI 3), .int 0, .int 0, .ref so, .ref sq, .int 0, .int 0, .int 0])), (so, .inl (cI, 4, .inl (fun _ => 0))), (sq, .inl (cI, 31, .inl lim0))] H ∧ va_D A [(sm, .inr (3, [.int 0, .int (nI 3), .int 0, .int 0, .ref so, .ref sq, .int 0, .int 0, .int 0])), (so, .inl (cI, 4, .inl (fun _ => 0))), (sq, .inl (cI, 31, .inl lim0))]) A) ([.ref sm]).toArray s 2 35 A) (F0 m 26 ls []) := by
    intro n
    induction n with
    | zero =>
      intro i gl H locs ls hn h3 hg hl hP hD hS
      have hi : i = 31 := by omega
      rw [hi] at hl
      refine lv_iload_n hx hb dX3_init_26 rfl (lv_at hl 0 rfl) ?_
      refine lv_bipush (v := 31) hx hb dX3_init_27 (by decide) ?_
      refine lv_icmp_ge (tgt := 48) hx hb dX3_init_29 (by decide) (fun _ => ?_) (fun c_1 => absurd (by decide) c_1)
      have hP : va_P D vwCl [(sm, .inr (3, [.int 0, .int (nI 3), .int 0, .int 0, .ref so, .ref sq, .int 0, .int 0, .int 0])), (so, .inl (cI, 4, .inl (fun _ => 0))), (sq, .inl (cI, 31, .inl lim0))] H := by
        intro k z hz
        match k, hz with
        | 0, hz => exact hP 0 z hz
        | 1, hz => exact hP 1 z hz
        | 2, hz => cases hz; exact arr_same (hP 2 _ rfl) (fun j hj => hg j (by omega))
        | k + 3, hz => cases hz
      exact W.vret hx hb hRt (fun t ht hW => ⟨⟨rfl, by rw [ht]; exact ⟨_, _, hP, c_Dsame hD rfl⟩⟩, hS.F ht⟩) hS.2.2 dX3_init_48
    | succ n ih =>
      intro i gl H locs ls hn h3 hg hl hP hD hS
      refine lv_iload_n hx hb dX3_init_26 rfl (lv_at hl 0 rfl) ?_
      refine lv_bipush (v := 31) hx hb dX3_init_27 (by decide) ?_
      refine lv_icmp_ge (tgt := 48) hx hb dX3_init_29 (by decide) (fun c_2 => absurd c_2 (nI_ge (b := 31) (by omega) (by decide))) (fun _ => ?_)
      refine lv_aload_n hx hb dX3_init_32 rfl (lv_at hl 1 rfl) ?_
      refine va_get (D := D) (ci := 3) (v := .ref sq) (C := RX3) (T := TX3) (N := 9) hx hb hts hiX3 hown hK hP 0 rfl rfl 5 (by decide) (hts (.fieldLink RX3 17 "CraneReachLaw$Sim" "limits" "[I") (by decide +kernel)) (fun _ h9 => h9) rfl dX3_init_33 ?_
      refine lv_iload_n hx hb dX3_init_36 rfl (lv_at hl 0 rfl) ?_
      refine lv_bipush (v := 90) hx hb dX3_init_37 (by decide) ?_
      refine lv_iload_n hx hb dX3_init_39 rfl (lv_at hl 0 rfl) ?_
      refine lv_idiv hx hb dX3_init_40 (nI_ne0 (by omega) (by omega)) ?_
      refine c_top (show (90 / (nI i)) = nI (90 / i) from lim_divM i (by omega) h3) ?_
      refine va_iast hx hb hK hP hD hS 2 0 rfl rfl (vp_in_nI (by omega) (by decide)) dX3_init_41 (fun H locs hP hD hS => ?_)
      have hP : va_P D vwCl [(sm, .inr (3, [.int 0, .int (nI 3), .int 0, .int 0, .ref so, .ref sq, .int 0, .int 0, .int 0])), (so, .inl (cI, 4, .inl (fun _ => 0))), (sq, .inl (cI, 31, .inl (upd gl (nI i).toNatClampNeg (nI (90 / i)))))] H := hP
      have hD : va_D A [(sm, .inr (3, [.int 0, .int (nI 3), .int 0, .int 0, .ref so, .ref sq, .int 0, .int 0, .int 0])), (so, .inl (cI, 4, .inl (fun _ => 0))), (sq, .inl (cI, 31, .inl (upd gl (nI i).toNatClampNeg (nI (90 / i)))))] := hD
      rw [show (nI i).toNatClampNeg = i from nI_clamp (by omega)] at hP hD
      have hP : va_P D vwCl [(sm, .inr (3, [.int 0, .int (nI 3), .int 0, .int 0, .ref so, .ref sq, .int 0, .int 0, .int 0])), (so, .inl (cI, 4, .inl (fun _ => 0))), (sq, .inl (cI, 31, .inl (upd gl i (nI (90 / i)))))] H := hP
      have hD : va_D A [(sm, .inr (3, [.int 0, .int (nI 3), .int 0, .int 0, .ref so, .ref sq, .int 0, .int 0, .int 0])), (so, .inl (cI, 4, .inl (fun _ => 0))), (sq, .inl (cI, 31, .inl (upd gl i (nI (90 / i)))))] := hD
      refine lv_iinc (v := (nI i) + 1) (lv' := [(1, .int ((nI i) + 1)), (0, .ref sm)]) hx hb dX3_init_42 hl (k := 0) rfl rfl (by decide) rfl (fun ls hl => ?_)
      refine lv_goto (tgt := 26) hx hb dX3_init_45 (by decide) ?_
      have hl : lv_has ls 2 [(1, .int (nI (i + 1))), (0, .ref sm)] := (show (nI i) + 1 = nI (i + 1) from nI_1 i) ▸ hl
      exact ih (i + 1) _ _ _ _ (by omega) (by omega) (fun j hj => by
            by_cases e : j = i
            · rw [e, pk_us, lim0, if_pos (by omega)]
            · rw [pk_un e]; exact hg j (by omega)) (lv_sub hl [0, 1] rfl) hP hD hS
  have hl : lv_has ls 2 [(1, .int (nI 3)), (0, .ref sm)] := (show 3 = nI 3 from rfl) ▸ hl
  exact loop 28 3 _ _ _ _ (by omega) (by omega) (fun j hj => by rw [lim0, if_neg (by omega)]) (lv_sub hl [0, 1] rfl) hP hD hS
set_option maxHeartbeats 4000000 in
set_option maxRecDepth 100000 in
/-- strain(side) -/
theorem s_strain (l : Launch) (D : va_G) (L0 : Nat) (cI : ClassId) (sm so sq d r : Nat) (ld pl li tl mo : Int32) (fo fl : Nat → Int32) (k : Nat) (hk : k < 4) (hd : d < 8) (sz : Nat) : Met l yX3_strain wsX3_strain ({ frames := 1, cells := 1, slots := 8, locals := 12 }) (cPz L0 D [(cI, .int)] [(sm, .inr (3, [.int (nI d), .int (nI r), .int ld, .int pl, .ref so, .ref sq, .int li, .int tl, .int mo])), (so, .inl (cI, 4, .inl fo)), (sq, .inl (cI, 31, .inl fl))] [.ref sm, .int (nI k)] sz) (cB (some (.int (strS fo pl k ld d r))) (fun H => va_P D vwCl [(sm, .inr (3, [.int (nI d), .int (nI r), .int ld, .int pl, .ref so, .ref sq, .int li, .int tl, .int mo])), (so, .inl (cI, 4, .inl fo)), (sq, .inl (cI, 31, .inl fl))] H) (va_A [(sm, .inr (3, [.int (nI d), .int (nI r), .int ld, .int pl, .ref so, .ref sq, .int li, .int tl, .int mo])), (so, .inl (cI, 4, .inl fo)), (sq, .inl (cI, 31, .inl fl))] sz)) 1 8 (va_A [(sm, .inr (3, [.int (nI d), .int (nI r), .int ld, .int pl, .ref so, .ref sq, .int li, .int tl, .int mo])), (so, .inl (cI, 4, .inl fo)), (sq, .inl (cI, 31, .inl fl))] sz) := by
  refine Met.ofW (cc := cX3_strain) (maxL := 5) (ret := (some .int)) (by decide) rfl ?_
  intro p e s m args below meth c s₁ B hml hv
  obtain ⟨⟨rfl, hP, hK, hD0, hE0⟩, rfl⟩ := hv
  have hx := B.exec
  have hb := B.bytes
  have hRt := B.returns
  have hts := atoms_spec (ws := wsX3_strain) B.pre
  have hown : s.vm.findClass RX3 = some m.cls := findClass_of_methodNamed B.named
  have hlocks := B.notSynchronized
  have hAL : ∀ z9 : Nat, va_A [(sm, .inr (3, [.int (nI d), .int (nI r), .int ld, .int pl, .ref so, .ref sq, .int li, .int tl, .int mo])), (so, .inl (cI, 4, .inl fo)), (sq, .inl (cI, 31, .inl fl))] s.heap.size z9 → L0 ≤ z9 := fun z9 h9 => h9.elim (fun ⟨k9, e9, h8⟩ => hD0.2 k9 (z9, e9) h8) (fun h8 => Nat.le_trans hE0.1 h8)
  have hD : va_D (va_A [(sm, .inr (3, [.int (nI d), .int (nI r), .int ld, .int pl, .ref so, .ref sq, .int li, .int tl, .int mo])), (so, .inl (cI, 4, .inl fo)), (sq, .inl (cI, 31, .inl fl))] s.heap.size) [(sm, .inr (3, [.int (nI d), .int (nI r), .int ld, .int pl, .ref so, .ref sq, .int li, .int tl, .int mo])), (so, .inl (cI, 4, .inl fo)), (sq, .inl (cI, 31, .inl fl))] := hD0.self
  have hA : ∀ z9 : Nat, s.heap.size ≤ z9 → va_A [(sm, .inr (3, [.int (nI d), .int (nI r), .int ld, .int pl, .ref so, .ref sq, .int li, .int tl, .int mo])), (so, .inl (cI, 4, .inl fo)), (sq, .inl (cI, 31, .inl fl))] s.heap.size z9 := fun z9 h9 => Or.inr h9
  generalize hAe : va_A [(sm, .inr (3, [.int (nI d), .int (nI r), .int ld, .int pl, .ref so, .ref sq, .int li, .int tl, .int mo])), (so, .inl (cI, 4, .inl fo)), (sq, .inl (cI, 31, .inl fl))] s.heap.size = A at hD hAL hA ⊢
  have hS : va_S A s.heap s.heap [] := va_S.rf
  have hiX3 : ∀ w ∈ u_ws RX3 TX3 9, w ∈ wsX3_strain := by decide +kernel
  have hl := lv_entry ([.ref sm, .int (nI k)]) (n := 5) (Nat.le_of_ble_eq_true rfl)
  rw [lg_entry_eq]
  generalize (lg_sl ([.ref sm, .int (nI k)]) ++ List.replicate (5 - (lg_sl ([.ref sm, .int (nI k)])).length) Slot.unset).toArray = ls at hl ⊢
  have hl : lv_has ls 5 [(0, .ref sm), (1, .int (nI k))] := hl
  refine lv_bipush (v := 8) hx hb dX3_strain_0 (by decide) ?_
  refine va_newa (atype := .int) (ty := .int) (a0 := (8, .inl (fun _ => 0))) (N' := 8) hx hb (hts (.arrayClass .int) (by decide +kernel)) rfl hK hP hD hS hA (fun _ => rfl) (by decide) (by decide) (Nat.le_of_ble_eq_true rfl) (Nat.le_of_ble_eq_true rfl) (Nat.le_of_ble_eq_true rfl) dX3_strain_2 (fun ar cA H hK hP hD hS => ?_)
  have eA : cA = cI := Option.some.inj ((hK.2 1 _ rfl).2.symm.trans (hK.2 0 _ rfl).2)
  rw [eA] at hP hD
  have hK := hK.sub (tys' := [(cI, .int)]) [0] rfl
  have hP : va_P D vwCl [(sm, .inr (3, [.int (nI d), .int (nI r), .int ld, .int pl, .ref so, .ref sq, .int li, .int tl, .int mo])), (so, .inl (cI, 4, .inl fo)), (sq, .inl (cI, 31, .inl fl)), (ar, .inl (cI, 8, .inl (fun _ => 0)))] H := hP
  have hD : va_D A [(sm, .inr (3, [.int (nI d), .int (nI r), .int ld, .int pl, .ref so, .ref sq, .int li, .int tl, .int mo])), (so, .inl (cI, 4, .inl fo)), (sq, .inl (cI, 31, .inl fl)), (ar, .inl (cI, 8, .inl (fun _ => 0)))] := hD
  refine lv_dup hx hb dX3_strain_4 rfl ?_
  refine lv_iconst (v := 0) hx hb dX3_strain_5 (by decide) ?_
  refine lv_bipush (v := 10) hx hb dX3_strain_6 (by decide) ?_
  refine va_iast hx hb hK hP hD hS 3 0 rfl rfl (vp_in_nI (n := 0) (by decide) (by decide)) dX3_strain_8 (fun H locs hP hD hS => ?_)
  have hP : va_P D vwCl [(sm, .inr (3, [.int (nI d), .int (nI r), .int ld, .int pl, .ref so, .ref sq, .int li, .int tl, .int mo])), (so, .inl (cI, 4, .inl fo)), (sq, .inl (cI, 31, .inl fl)), (ar, .inl (cI, 8, .inl (upd (fun _ => 0) ((0 : Int32)).toNatClampNeg 10)))] H := hP
  have hD : va_D A [(sm, .inr (3, [.int (nI d), .int (nI r), .int ld, .int pl, .ref so, .ref sq, .int li, .int tl, .int mo])), (so, .inl (cI, 4, .inl fo)), (sq, .inl (cI, 31, .inl fl)), (ar, .inl (cI, 8, .inl (upd (fun _ => 0) ((0 : Int32)).toNatClampNeg 10)))] := hD
  rw [show ((0 : Int32)).toNatClampNeg = 0 from by decide] at hP hD
  have hP : va_P D vwCl [(sm, .inr (3, [.int (nI d), .int (nI r), .int ld, .int pl, .ref so, .ref sq, .int li, .int tl, .int mo])), (so, .inl (cI, 4, .inl fo)), (sq, .inl (cI, 31, .inl fl)), (ar, .inl (cI, 8, .inl (upd (fun _ => 0) 0 10)))] H := hP
  have hD : va_D A [(sm, .inr (3, [.int (nI d), .int (nI r), .int ld, .int pl, .ref so, .ref sq, .int li, .int tl, .int mo])), (so, .inl (cI, 4, .inl fo)), (sq, .inl (cI, 31, .inl fl)), (ar, .inl (cI, 8, .inl (upd (fun _ => 0) 0 10)))] := hD
  refine lv_dup hx hb dX3_strain_9 rfl ?_
  refine lv_iconst (v := 1) hx hb dX3_strain_10 (by decide) ?_
  refine lv_bipush (v := 7) hx hb dX3_strain_11 (by decide) ?_
  refine va_iast hx hb hK hP hD hS 3 0 rfl rfl (vp_in_nI (n := 1) (by decide) (by decide)) dX3_strain_13 (fun H locs hP hD hS => ?_)
  have hP : va_P D vwCl [(sm, .inr (3, [.int (nI d), .int (nI r), .int ld, .int pl, .ref so, .ref sq, .int li, .int tl, .int mo])), (so, .inl (cI, 4, .inl fo)), (sq, .inl (cI, 31, .inl fl)), (ar, .inl (cI, 8, .inl (upd (upd (fun _ => 0) 0 10) ((1 : Int32)).toNatClampNeg 7)))] H := hP
  have hD : va_D A [(sm, .inr (3, [.int (nI d), .int (nI r), .int ld, .int pl, .ref so, .ref sq, .int li, .int tl, .int mo])), (so, .inl (cI, 4, .inl fo)), (sq, .inl (cI, 31, .inl fl)), (ar, .inl (cI, 8, .inl (upd (upd (fun _ => 0) 0 10) ((1 : Int32)).toNatClampNeg 7)))] := hD
  rw [show ((1 : Int32)).toNatClampNeg = 1 from by decide] at hP hD
  have hP : va_P D vwCl [(sm, .inr (3, [.int (nI d), .int (nI r), .int ld, .int pl, .ref so, .ref sq, .int li, .int tl, .int mo])), (so, .inl (cI, 4, .inl fo)), (sq, .inl (cI, 31, .inl fl)), (ar, .inl (cI, 8, .inl (upd (upd (fun _ => 0) 0 10) 1 7)))] H := hP
  have hD : va_D A [(sm, .inr (3, [.int (nI d), .int (nI r), .int ld, .int pl, .ref so, .ref sq, .int li, .int tl, .int mo])), (so, .inl (cI, 4, .inl fo)), (sq, .inl (cI, 31, .inl fl)), (ar, .inl (cI, 8, .inl (upd (upd (fun _ => 0) 0 10) 1 7)))] := hD
  refine lv_dup hx hb dX3_strain_14 rfl ?_
  refine lv_iconst (v := 2) hx hb dX3_strain_15 (by decide) ?_
  refine lv_iconst (v := 0) hx hb dX3_strain_16 (by decide) ?_
  refine va_iast hx hb hK hP hD hS 3 0 rfl rfl (vp_in_nI (n := 2) (by decide) (by decide)) dX3_strain_17 (fun H locs hP hD hS => ?_)
  have hP : va_P D vwCl [(sm, .inr (3, [.int (nI d), .int (nI r), .int ld, .int pl, .ref so, .ref sq, .int li, .int tl, .int mo])), (so, .inl (cI, 4, .inl fo)), (sq, .inl (cI, 31, .inl fl)), (ar, .inl (cI, 8, .inl (upd (upd (upd (fun _ => 0) 0 10) 1 7) ((2 : Int32)).toNatClampNeg 0)))] H := hP
  have hD : va_D A [(sm, .inr (3, [.int (nI d), .int (nI r), .int ld, .int pl, .ref so, .ref sq, .int li, .int tl, .int mo])), (so, .inl (cI, 4, .inl fo)), (sq, .inl (cI, 31, .inl fl)), (ar, .inl (cI, 8, .inl (upd (upd (upd (fun _ => 0) 0 10) 1 7) ((2 : Int32)).toNatClampNeg 0)))] := hD
  rw [show ((2 : Int32)).toNatClampNeg = 2 from by decide] at hP hD
  have hP : va_P D vwCl [(sm, .inr (3, [.int (nI d), .int (nI r), .int ld, .int pl, .ref so, .ref sq, .int li, .int tl, .int mo])), (so, .inl (cI, 4, .inl fo)), (sq, .inl (cI, 31, .inl fl)), (ar, .inl (cI, 8, .inl (upd (upd (upd (fun _ => 0) 0 10) 1 7) 2 0)))] H := hP
  have hD : va_D A [(sm, .inr (3, [.int (nI d), .int (nI r), .int ld, .int pl, .ref so, .ref sq, .int li, .int tl, .int mo])), (so, .inl (cI, 4, .inl fo)), (sq, .inl (cI, 31, .inl fl)), (ar, .inl (cI, 8, .inl (upd (upd (upd (fun _ => 0) 0 10) 1 7) 2 0)))] := hD
  refine lv_dup hx hb dX3_strain_18 rfl ?_
  refine lv_iconst (v := 3) hx hb dX3_strain_19 (by decide) ?_
  refine lv_bipush (v := -7) hx hb dX3_strain_20 (by decide) ?_
  refine va_iast hx hb hK hP hD hS 3 0 rfl rfl (vp_in_nI (n := 3) (by decide) (by decide)) dX3_strain_22 (fun H locs hP hD hS => ?_)
  have hP : va_P D vwCl [(sm, .inr (3, [.int (nI d), .int (nI r), .int ld, .int pl, .ref so, .ref sq, .int li, .int tl, .int mo])), (so, .inl (cI, 4, .inl fo)), (sq, .inl (cI, 31, .inl fl)), (ar, .inl (cI, 8, .inl (upd (upd (upd (upd (fun _ => 0) 0 10) 1 7) 2 0) ((3 : Int32)).toNatClampNeg (-7))))] H := hP
  have hD : va_D A [(sm, .inr (3, [.int (nI d), .int (nI r), .int ld, .int pl, .ref so, .ref sq, .int li, .int tl, .int mo])), (so, .inl (cI, 4, .inl fo)), (sq, .inl (cI, 31, .inl fl)), (ar, .inl (cI, 8, .inl (upd (upd (upd (upd (fun _ => 0) 0 10) 1 7) 2 0) ((3 : Int32)).toNatClampNeg (-7))))] := hD
  rw [show ((3 : Int32)).toNatClampNeg = 3 from by decide] at hP hD
  have hP : va_P D vwCl [(sm, .inr (3, [.int (nI d), .int (nI r), .int ld, .int pl, .ref so, .ref sq, .int li, .int tl, .int mo])), (so, .inl (cI, 4, .inl fo)), (sq, .inl (cI, 31, .inl fl)), (ar, .inl (cI, 8, .inl (upd (upd (upd (upd (fun _ => 0) 0 10) 1 7) 2 0) 3 (-7))))] H := hP
  have hD : va_D A [(sm, .inr (3, [.int (nI d), .int (nI r), .int ld, .int pl, .ref so, .ref sq, .int li, .int tl, .int mo])), (so, .inl (cI, 4, .inl fo)), (sq, .inl (cI, 31, .inl fl)), (ar, .inl (cI, 8, .inl (upd (upd (upd (upd (fun _ => 0) 0 10) 1 7) 2 0) 3 (-7))))] := hD
  refine lv_dup hx hb dX3_strain_23 rfl ?_
  refine lv_iconst (v := 4) hx hb dX3_strain_24 (by decide) ?_
  refine lv_bipush (v := -10) hx hb dX3_strain_25 (by decide) ?_
  refine va_iast hx hb hK hP hD hS 3 0 rfl rfl (vp_in_nI (n := 4) (by decide) (by decide)) dX3_strain_27 (fun H locs hP hD hS => ?_)
  have hP : va_P D vwCl [(sm, .inr (3, [.int (nI d), .int (nI r), .int ld, .int pl, .ref so, .ref sq, .int li, .int tl, .int mo])), (so, .inl (cI, 4, .inl fo)), (sq, .inl (cI, 31, .inl fl)), (ar, .inl (cI, 8, .inl (upd (upd (upd (upd (upd (fun _ => 0) 0 10) 1 7) 2 0) 3 (-7)) ((4 : Int32)).toNatClampNeg (-10))))] H := hP
  have hD : va_D A [(sm, .inr (3, [.int (nI d), .int (nI r), .int ld, .int pl, .ref so, .ref sq, .int li, .int tl, .int mo])), (so, .inl (cI, 4, .inl fo)), (sq, .inl (cI, 31, .inl fl)), (ar, .inl (cI, 8, .inl (upd (upd (upd (upd (upd (fun _ => 0) 0 10) 1 7) 2 0) 3 (-7)) ((4 : Int32)).toNatClampNeg (-10))))] := hD
  rw [show ((4 : Int32)).toNatClampNeg = 4 from by decide] at hP hD
  have hP : va_P D vwCl [(sm, .inr (3, [.int (nI d), .int (nI r), .int ld, .int pl, .ref so, .ref sq, .int li, .int tl, .int mo])), (so, .inl (cI, 4, .inl fo)), (sq, .inl (cI, 31, .inl fl)), (ar, .inl (cI, 8, .inl (upd (upd (upd (upd (upd (fun _ => 0) 0 10) 1 7) 2 0) 3 (-7)) 4 (-10))))] H := hP
  have hD : va_D A [(sm, .inr (3, [.int (nI d), .int (nI r), .int ld, .int pl, .ref so, .ref sq, .int li, .int tl, .int mo])), (so, .inl (cI, 4, .inl fo)), (sq, .inl (cI, 31, .inl fl)), (ar, .inl (cI, 8, .inl (upd (upd (upd (upd (upd (fun _ => 0) 0 10) 1 7) 2 0) 3 (-7)) 4 (-10))))] := hD
  refine lv_dup hx hb dX3_strain_28 rfl ?_
  refine lv_iconst (v := 5) hx hb dX3_strain_29 (by decide) ?_
  refine lv_bipush (v := -7) hx hb dX3_strain_30 (by decide) ?_
  refine va_iast hx hb hK hP hD hS 3 0 rfl rfl (vp_in_nI (n := 5) (by decide) (by decide)) dX3_strain_32 (fun H locs hP hD hS => ?_)
  have hP : va_P D vwCl [(sm, .inr (3, [.int (nI d), .int (nI r), .int ld, .int pl, .ref so, .ref sq, .int li, .int tl, .int mo])), (so, .inl (cI, 4, .inl fo)), (sq, .inl (cI, 31, .inl fl)), (ar, .inl (cI, 8, .inl (upd (upd (upd (upd (upd (upd (fun _ => 0) 0 10) 1 7) 2 0) 3 (-7)) 4 (-10)) ((5 : Int32)).toNatClampNeg (-7))))] H := hP
  have hD : va_D A [(sm, .inr (3, [.int (nI d), .int (nI r), .int ld, .int pl, .ref so, .ref sq, .int li, .int tl, .int mo])), (so, .inl (cI, 4, .inl fo)), (sq, .inl (cI, 31, .inl fl)), (ar, .inl (cI, 8, .inl (upd (upd (upd (upd (upd (upd (fun _ => 0) 0 10) 1 7) 2 0) 3 (-7)) 4 (-10)) ((5 : Int32)).toNatClampNeg (-7))))] := hD
  rw [show ((5 : Int32)).toNatClampNeg = 5 from by decide] at hP hD
  have hP : va_P D vwCl [(sm, .inr (3, [.int (nI d), .int (nI r), .int ld, .int pl, .ref so, .ref sq, .int li, .int tl, .int mo])), (so, .inl (cI, 4, .inl fo)), (sq, .inl (cI, 31, .inl fl)), (ar, .inl (cI, 8, .inl (upd (upd (upd (upd (upd (upd (fun _ => 0) 0 10) 1 7) 2 0) 3 (-7)) 4 (-10)) 5 (-7))))] H := hP
  have hD : va_D A [(sm, .inr (3, [.int (nI d), .int (nI r), .int ld, .int pl, .ref so, .ref sq, .int li, .int tl, .int mo])), (so, .inl (cI, 4, .inl fo)), (sq, .inl (cI, 31, .inl fl)), (ar, .inl (cI, 8, .inl (upd (upd (upd (upd (upd (upd (fun _ => 0) 0 10) 1 7) 2 0) 3 (-7)) 4 (-10)) 5 (-7))))] := hD
  refine lv_dup hx hb dX3_strain_33 rfl ?_
  refine lv_bipush (v := 6) hx hb dX3_strain_34 (by decide) ?_
  refine lv_iconst (v := 0) hx hb dX3_strain_36 (by decide) ?_
  refine va_iast hx hb hK hP hD hS 3 0 rfl rfl (vp_in_nI (n := 6) (by decide) (by decide)) dX3_strain_37 (fun H locs hP hD hS => ?_)
  have hP : va_P D vwCl [(sm, .inr (3, [.int (nI d), .int (nI r), .int ld, .int pl, .ref so, .ref sq, .int li, .int tl, .int mo])), (so, .inl (cI, 4, .inl fo)), (sq, .inl (cI, 31, .inl fl)), (ar, .inl (cI, 8, .inl (upd (upd (upd (upd (upd (upd (upd (fun _ => 0) 0 10) 1 7) 2 0) 3 (-7)) 4 (-10)) 5 (-7)) ((6 : Int32)).toNatClampNeg 0)))] H := hP
  have hD : va_D A [(sm, .inr (3, [.int (nI d), .int (nI r), .int ld, .int pl, .ref so, .ref sq, .int li, .int tl, .int mo])), (so, .inl (cI, 4, .inl fo)), (sq, .inl (cI, 31, .inl fl)), (ar, .inl (cI, 8, .inl (upd (upd (upd (upd (upd (upd (upd (fun _ => 0) 0 10) 1 7) 2 0) 3 (-7)) 4 (-10)) 5 (-7)) ((6 : Int32)).toNatClampNeg 0)))] := hD
  rw [show ((6 : Int32)).toNatClampNeg = 6 from by decide] at hP hD
  have hP : va_P D vwCl [(sm, .inr (3, [.int (nI d), .int (nI r), .int ld, .int pl, .ref so, .ref sq, .int li, .int tl, .int mo])), (so, .inl (cI, 4, .inl fo)), (sq, .inl (cI, 31, .inl fl)), (ar, .inl (cI, 8, .inl (upd (upd (upd (upd (upd (upd (upd (fun _ => 0) 0 10) 1 7) 2 0) 3 (-7)) 4 (-10)) 5 (-7)) 6 0)))] H := hP
  have hD : va_D A [(sm, .inr (3, [.int (nI d), .int (nI r), .int ld, .int pl, .ref so, .ref sq, .int li, .int tl, .int mo])), (so, .inl (cI, 4, .inl fo)), (sq, .inl (cI, 31, .inl fl)), (ar, .inl (cI, 8, .inl (upd (upd (upd (upd (upd (upd (upd (fun _ => 0) 0 10) 1 7) 2 0) 3 (-7)) 4 (-10)) 5 (-7)) 6 0)))] := hD
  refine lv_dup hx hb dX3_strain_38 rfl ?_
  refine lv_bipush (v := 7) hx hb dX3_strain_39 (by decide) ?_
  refine lv_bipush (v := 7) hx hb dX3_strain_41 (by decide) ?_
  refine va_iast hx hb hK hP hD hS 3 0 rfl rfl (vp_in_nI (n := 7) (by decide) (by decide)) dX3_strain_43 (fun H locs hP hD hS => ?_)
  have hP : va_P D vwCl [(sm, .inr (3, [.int (nI d), .int (nI r), .int ld, .int pl, .ref so, .ref sq, .int li, .int tl, .int mo])), (so, .inl (cI, 4, .inl fo)), (sq, .inl (cI, 31, .inl fl)), (ar, .inl (cI, 8, .inl (upd (upd (upd (upd (upd (upd (upd (upd (fun _ => 0) 0 10) 1 7) 2 0) 3 (-7)) 4 (-10)) 5 (-7)) 6 0) ((7 : Int32)).toNatClampNeg 7)))] H := hP
  have hD : va_D A [(sm, .inr (3, [.int (nI d), .int (nI r), .int ld, .int pl, .ref so, .ref sq, .int li, .int tl, .int mo])), (so, .inl (cI, 4, .inl fo)), (sq, .inl (cI, 31, .inl fl)), (ar, .inl (cI, 8, .inl (upd (upd (upd (upd (upd (upd (upd (upd (fun _ => 0) 0 10) 1 7) 2 0) 3 (-7)) 4 (-10)) 5 (-7)) 6 0) ((7 : Int32)).toNatClampNeg 7)))] := hD
  rw [show ((7 : Int32)).toNatClampNeg = 7 from by decide] at hP hD
  have hP : va_P D vwCl [(sm, .inr (3, [.int (nI d), .int (nI r), .int ld, .int pl, .ref so, .ref sq, .int li, .int tl, .int mo])), (so, .inl (cI, 4, .inl fo)), (sq, .inl (cI, 31, .inl fl)), (ar, .inl (cI, 8, .inl (upd (upd (upd (upd (upd (upd (upd (upd (fun _ => 0) 0 10) 1 7) 2 0) 3 (-7)) 4 (-10)) 5 (-7)) 6 0) 7 7)))] H := hP
  have hD : va_D A [(sm, .inr (3, [.int (nI d), .int (nI r), .int ld, .int pl, .ref so, .ref sq, .int li, .int tl, .int mo])), (so, .inl (cI, 4, .inl fo)), (sq, .inl (cI, 31, .inl fl)), (ar, .inl (cI, 8, .inl (upd (upd (upd (upd (upd (upd (upd (upd (fun _ => 0) 0 10) 1 7) 2 0) 3 (-7)) 4 (-10)) 5 (-7)) 6 0) 7 7)))] := hD
  refine lv_astore_n (lv' := [(2, .ref ar), (0, .ref sm), (1, .int (nI k))]) hx hb dX3_strain_44 rfl hl (by decide) rfl (fun ls hl => ?_)
  refine lv_aload_n hx hb dX3_strain_45 rfl (lv_at hl 0 rfl) ?_
  refine lv_aload_n hx hb dX3_strain_46 rfl (lv_at hl 1 rfl) ?_
  refine va_get (D := D) (ci := 3) (v := .int (nI d)) (C := RX3) (T := TX3) (N := 9) hx hb hts hiX3 hown hK hP 0 rfl rfl 0 (by decide) (hts (.fieldLink RX3 21 "CraneReachLaw$Sim" "direction" "I") (by decide +kernel)) (fun _ h9 => h9) rfl dX3_strain_47 ?_
  refine lv_bipush (v := 8) hx hb dX3_strain_50 (by decide) ?_
  refine lv_iadd hx hb dX3_strain_52 ?_
  refine lv_iconst (v := 2) hx hb dX3_strain_53 (by decide) ?_
  refine lv_iload_n hx hb dX3_strain_54 rfl (lv_at hl 2 rfl) ?_
  refine lv_imul hx hb dX3_strain_55 ?_
  refine lv_isub hx hb dX3_strain_56 ?_
  refine lv_bipush (v := 8) hx hb dX3_strain_57 (by decide) ?_
  refine lv_irem hx hb dX3_strain_59 (by decide) ?_
  refine c_top (show ((((nI d) + 8) - (2 * (nI k))) - (((nI d) + 8) - (2 * (nI k))) / 8 * 8) = nI ((d + 8 - 2 * k) % 8) from slx2 d hd k hk) ?_
  refine va_iald hx hb hK hP 3 0 rfl rfl (vp_in_nI (Nat.mod_lt _ (by decide)) (by decide)) dX3_strain_60 ?_
  refine c_top (show ((upd (upd (upd (upd (upd (upd (upd (upd (fun _ => 0) 0 10) 1 7) 2 0) 3 (-7)) 4 (-10)) 5 (-7)) 6 0) 7 7) (nI ((d + 8 - 2 * k) % 8)).toNatClampNeg) = slN d k from by rw [nI_clamp (Nat.lt_of_lt_of_le (Nat.mod_lt _ (by decide)) (by decide))]; exact slA_n) ?_
  refine lv_istore_n (lv' := [(3, .int (slN d k)), (2, .ref ar), (0, .ref sm), (1, .int (nI k))]) hx hb dX3_strain_61 rfl hl (by decide) rfl (fun ls hl => ?_)
  refine lv_bipush (v := 20) hx hb dX3_strain_62 (by decide) ?_
  refine lv_bipush (v := 10) hx hb dX3_strain_64 (by decide) ?_
  refine lv_aload_n hx hb dX3_strain_66 rfl (lv_at hl 2 rfl) ?_
  refine va_get (D := D) (ci := 3) (v := .ref so) (C := RX3) (T := TX3) (N := 9) hx hb hts hiX3 hown hK hP 0 rfl rfl 4 (by decide) (hts (.fieldLink RX3 13 "CraneReachLaw$Sim" "out" "[I") (by decide +kernel)) (fun _ h9 => h9) rfl dX3_strain_67 ?_
  refine lv_iload_n hx hb dX3_strain_70 rfl (lv_at hl 3 rfl) ?_
  refine va_iald hx hb hK hP 1 0 rfl rfl (vp_in_nI hk (by decide)) dX3_strain_71 ?_
  refine c_top (show (fo (nI k).toNatClampNeg) = fo k from by rw [nI_clamp (by omega)]) ?_
  refine lv_imul hx hb dX3_strain_72 ?_
  refine lv_iadd hx hb dX3_strain_73 ?_
  refine lv_istore (lv' := [(4, .int (20 + (10 * (fo k)))), (3, .int (slN d k)), (2, .ref ar), (0, .ref sm), (1, .int (nI k))]) hx hb dX3_strain_74 hl (by decide) rfl (fun ls hl => ?_)
  refine lv_aload_n hx hb dX3_strain_76 rfl (lv_at hl 3 rfl) ?_
  refine va_get (D := D) (ci := 3) (v := .int ld) (C := RX3) (T := TX3) (N := 9) hx hb hts hiX3 hown hK hP 0 rfl rfl 2 (by decide) (hts (.fieldLink RX3 24 "CraneReachLaw$Sim" "load" "I") (by decide +kernel)) (fun _ h9 => h9) rfl dX3_strain_77 ?_
  refine lv_aload_n hx hb dX3_strain_80 rfl (lv_at hl 3 rfl) ?_
  refine va_get (D := D) (ci := 3) (v := .int (nI r)) (C := RX3) (T := TX3) (N := 9) hx hb hts hiX3 hown hK hP 0 rfl rfl 1 (by decide) (hts (.fieldLink RX3 7 "CraneReachLaw$Sim" "reach" "I") (by decide +kernel)) (fun _ h9 => h9) rfl dX3_strain_81 ?_
  refine lv_imul hx hb dX3_strain_84 ?_
  refine lv_iload_n hx hb dX3_strain_85 rfl (lv_at hl 1 rfl) ?_
  refine lv_imul hx hb dX3_strain_86 ?_
  refine lv_aload_n hx hb dX3_strain_87 rfl (lv_at hl 3 rfl) ?_
  refine va_get (D := D) (ci := 3) (v := .int ld) (C := RX3) (T := TX3) (N := 9) hx hb hts hiX3 hown hK hP 0 rfl rfl 2 (by decide) (hts (.fieldLink RX3 24 "CraneReachLaw$Sim" "load" "I") (by decide +kernel)) (fun _ h9 => h9) rfl dX3_strain_88 ?_
  refine lv_iload hx hb dX3_strain_91 (lv_at hl 0 rfl) ?_
  refine lv_imul hx hb dX3_strain_93 ?_
  refine lv_isub hx hb dX3_strain_94 ?_
  refine lv_bipush (v := 8) hx hb dX3_strain_95 (by decide) ?_
  refine lv_aload_n hx hb dX3_strain_97 rfl (lv_at hl 3 rfl) ?_
  refine va_get (D := D) (ci := 3) (v := .int pl) (C := RX3) (T := TX3) (N := 9) hx hb hts hiX3 hown hK hP 0 rfl rfl 3 (by decide) (hts (.fieldLink RX3 27 "CraneReachLaw$Sim" "plates" "I") (by decide +kernel)) (fun _ h9 => h9) rfl dX3_strain_98 ?_
  refine lv_imul hx hb dX3_strain_101 ?_
  refine lv_iload_n hx hb dX3_strain_102 rfl (lv_at hl 1 rfl) ?_
  refine lv_imul hx hb dX3_strain_103 ?_
  refine lv_isub hx hb dX3_strain_104 ?_
  refine lv_iconst (v := 2) hx hb dX3_strain_105 (by decide) ?_
  refine lv_aload_n hx hb dX3_strain_106 rfl (lv_at hl 3 rfl) ?_
  refine va_get (D := D) (ci := 3) (v := .int pl) (C := RX3) (T := TX3) (N := 9) hx hb hts hiX3 hown hK hP 0 rfl rfl 3 (by decide) (hts (.fieldLink RX3 27 "CraneReachLaw$Sim" "plates" "I") (by decide +kernel)) (fun _ h9 => h9) rfl dX3_strain_107 ?_
  refine lv_imul hx hb dX3_strain_110 ?_
  refine lv_iload hx hb dX3_strain_111 (lv_at hl 0 rfl) ?_
  refine lv_imul hx hb dX3_strain_113 ?_
  refine lv_isub hx hb dX3_strain_114 ?_
  refine lv_bipush (v := 20) hx hb dX3_strain_115 (by decide) ?_
  refine lv_iload hx hb dX3_strain_117 (lv_at hl 0 rfl) ?_
  refine lv_imul hx hb dX3_strain_119 ?_
  refine lv_isub hx hb dX3_strain_120 ?_
  refine c_top (show ((((((ld * (nI r)) * (slN d k)) - (ld * (20 + (10 * (fo k))))) - ((8 * pl) * (slN d k))) - ((2 * pl) * (20 + (10 * (fo k))))) - (20 * (20 + (10 * (fo k))))) = strS fo pl k ld d r from strS_s) ?_
  refine W.widen (k := 1) (n := 8) (Nat.le_of_ble_eq_true rfl) (Nat.le_of_ble_eq_true rfl) ?_
  exact W.iret (v := (strS fo pl k ld d r)) hx hb hRt (fun t ht hW => ⟨⟨rfl, by rw [ht]; exact hP.sub [0, 1, 2] rfl⟩, hS.F ht⟩) hS.2.2 dX3_strain_121
set_option maxHeartbeats 4000000 in
set_option maxRecDepth 100000 in
/-- isSafe() -/
theorem s_isSafe0 (l : Launch) (D : va_G) (L0 : Nat) (cI : ClassId) (sm so sq d r : Nat) (ld pl li tl mo : Int32) (fo fl : Nat → Int32) (hd : d < 8) (hr : 3 ≤ r ∧ r ≤ 30) (sz : Nat) : Met l yX3_isSafe wsX3_isSafe ({ frames := 2, cells := 4, slots := 32, locals := 36 }) (cPz L0 D [(cI, .int)] [(sm, .inr (3, [.int (nI d), .int (nI r), .int ld, .int pl, .ref so, .ref sq, .int li, .int tl, .int mo])), (so, .inl (cI, 4, .inl fo)), (sq, .inl (cI, 31, .inl fl))] [.ref sm] sz) (cB (some (.int (bI (safS fo fl pl ld d r)))) (fun H => va_P D vwCl [(sm, .inr (3, [.int (nI d), .int (nI r), .int ld, .int pl, .ref so, .ref sq, .int li, .int tl, .int mo])), (so, .inl (cI, 4, .inl fo)), (sq, .inl (cI, 31, .inl fl))] H) (va_A [(sm, .inr (3, [.int (nI d), .int (nI r), .int ld, .int pl, .ref so, .ref sq, .int li, .int tl, .int mo])), (so, .inl (cI, 4, .inl fo)), (sq, .inl (cI, 31, .inl fl))] sz)) 4 32 (va_A [(sm, .inr (3, [.int (nI d), .int (nI r), .int ld, .int pl, .ref so, .ref sq, .int li, .int tl, .int mo])), (so, .inl (cI, 4, .inl fo)), (sq, .inl (cI, 31, .inl fl))] sz) := by
  refine Met.ofW (cc := cX3_isSafe) (maxL := 1) (ret := (some .boolean)) (by decide) rfl ?_
  intro p e s m args below meth c s₁ B hml hv
  obtain ⟨⟨rfl, hP, hK, hD0, hE0⟩, rfl⟩ := hv
  have hx := B.exec
  have hb := B.bytes
  have hRt := B.returns
  have hts := atoms_spec (ws := wsX3_isSafe) B.pre
  have hown : s.vm.findClass RX3 = some m.cls := findClass_of_methodNamed B.named
  have hlocks := B.notSynchronized
  have hAL : ∀ z9 : Nat, va_A [(sm, .inr (3, [.int (nI d), .int (nI r), .int ld, .int pl, .ref so, .ref sq, .int li, .int tl, .int mo])), (so, .inl (cI, 4, .inl fo)), (sq, .inl (cI, 31, .inl fl))] s.heap.size z9 → L0 ≤ z9 := fun z9 h9 => h9.elim (fun ⟨k9, e9, h8⟩ => hD0.2 k9 (z9, e9) h8) (fun h8 => Nat.le_trans hE0.1 h8)
  have hD : va_D (va_A [(sm, .inr (3, [.int (nI d), .int (nI r), .int ld, .int pl, .ref so, .ref sq, .int li, .int tl, .int mo])), (so, .inl (cI, 4, .inl fo)), (sq, .inl (cI, 31, .inl fl))] s.heap.size) [(sm, .inr (3, [.int (nI d), .int (nI r), .int ld, .int pl, .ref so, .ref sq, .int li, .int tl, .int mo])), (so, .inl (cI, 4, .inl fo)), (sq, .inl (cI, 31, .inl fl))] := hD0.self
  have hA : ∀ z9 : Nat, s.heap.size ≤ z9 → va_A [(sm, .inr (3, [.int (nI d), .int (nI r), .int ld, .int pl, .ref so, .ref sq, .int li, .int tl, .int mo])), (so, .inl (cI, 4, .inl fo)), (sq, .inl (cI, 31, .inl fl))] s.heap.size z9 := fun z9 h9 => Or.inr h9
  generalize hAe : va_A [(sm, .inr (3, [.int (nI d), .int (nI r), .int ld, .int pl, .ref so, .ref sq, .int li, .int tl, .int mo])), (so, .inl (cI, 4, .inl fo)), (sq, .inl (cI, 31, .inl fl))] s.heap.size = A at hD hAL hA ⊢
  have hS : va_S A s.heap s.heap [] := va_S.rf
  have hiX3 : ∀ w ∈ u_ws RX3 TX3 9, w ∈ wsX3_isSafe := by decide +kernel
  have hl := lv_entry ([.ref sm]) (n := 1) (Nat.le_of_ble_eq_true rfl)
  rw [lg_entry_eq]
  generalize (lg_sl ([.ref sm]) ++ List.replicate (1 - (lg_sl ([.ref sm])).length) Slot.unset).toArray = ls at hl ⊢
  have hl : lv_has ls 1 [(0, .ref sm)] := hl
  refine lv_aload_n hx hb dX3_isSafe_0 rfl (lv_at hl 0 rfl) ?_
  refine lv_iconst (v := 0) hx hb dX3_isSafe_1 (by decide) ?_
  have hPc := hP.sub (ws' := [(sm, .inr (3, [.int (nI d), .int (nI r), .int ld, .int pl, .ref so, .ref sq, .int li, .int tl, .int mo])), (so, .inl (cI, 4, .inl fo)), (sq, .inl (cI, 31, .inl fl))]) [0, 1, 2] rfl
  have hDc : va_D (fun q : Nat => L0 ≤ q) [(sm, .inr (3, [.int (nI d), .int (nI r), .int ld, .int pl, .ref so, .ref sq, .int li, .int tl, .int mo])), (so, .inl (cI, 4, .inl fo)), (sq, .inl (cI, 31, .inl fl))] := (hD.sub (ws' := [(sm, .inr (3, [.int (nI d), .int (nI r), .int ld, .int pl, .ref so, .ref sq, .int li, .int tl, .int mo])), (so, .inl (cI, 4, .inl fo)), (sq, .inl (cI, 31, .inl fl))]) [0, 1, 2] (by decide) rfl).weaken (fun _ z9 _ h9 => hAL _ h9)
  have hKc := hK.sub (tys' := [(cI, .int)]) [0] rfl
  have hFc := va_free (wc := [(sm, .inr (3, [.int (nI d), .int (nI r), .int ld, .int pl, .ref so, .ref sq, .int li, .int tl, .int mo])), (so, .inl (cI, 4, .inl fo)), (sq, .inl (cI, 31, .inl fl))]) hD hS hA [0, 1, 2] rfl
  refine c_callB (va_runV (As := [.int (nI 0)]) (rest := []) ⟨hx, hb, hml, hown, hts⟩ (s_strain l D L0 cI sm so sq d r ld pl li tl mo fo fl 0 (by decide) hd _) (cwV 1 hts gX3_isSafe_X3_strain rfl rfl rfl (by decide +kernel) ⟨Nat.le_of_ble_eq_true rfl, Nat.le_of_ble_eq_true rfl⟩) ⟨cPz_blind, va_recv hKc hPc (ci := 3) (q0 := 0) rfl rfl, cPz_of hPc hKc hDc (kE_at hE0 hAL hS)⟩ rfl rfl hl.1 rfl (lv_room (Nat.le_of_ble_eq_true rfl)) dX3_isSafe_2 ⟨Nat.le_of_ble_eq_true rfl, Nat.le_of_ble_eq_true rfl⟩) hS (fun z9 _ h9 => hFc z9 h9) hFc (fun H1 locs hB hz1 hk1 hS => ?_)
  obtain ⟨hP, hD⟩ := c_join (ws' := [(sm, .inr (3, [.int (nI d), .int (nI r), .int ld, .int pl, .ref so, .ref sq, .int li, .int tl, .int mo])), (so, .inl (cI, 4, .inl fo)), (sq, .inl (cI, 31, .inl fl))]) (wr := []) (w1 := [(sm, .inr (3, [.int (nI d), .int (nI r), .int ld, .int pl, .ref so, .ref sq, .int li, .int tl, .int mo])), (so, .inl (cI, 4, .inl fo)), (sq, .inl (cI, 31, .inl fl))]) hP hD [0, 1, 2] [] [0, 1, 2] rfl rfl (by decide) (by decide) (c_area hk1) hB rfl rfl rfl (by decide)
  generalize H1 = H at hP hS ⊢
  show W _ _ _ _ _ _ _ _ _ _ _ _ _ _ _ (F0 m 5 ls [.int (strS fo pl 0 ld d r)])
  refine lv_if_gt (tgt := 52) hx hb dX3_isSafe_5 (by decide) (fun c_3 => ?_) (fun c_3 => ?_)
  · refine lv_iconst (v := 0) hx hb dX3_isSafe_52 (by decide) ?_
    refine W.widen (k := 4) (n := 32) (Nat.le_of_ble_eq_true rfl) (Nat.le_of_ble_eq_true rfl) ?_
    exact W.zret (v := 0) hx hb hRt (rfl) (fun t ht hW => ⟨⟨by rw [safS_n0 (i_ltn c_3)], by rw [ht]; exact hP⟩, hS.F ht⟩) hS.2.2 dX3_isSafe_53
  · refine lv_aload_n hx hb dX3_isSafe_8 rfl (lv_at hl 0 rfl) ?_
    refine lv_iconst (v := 1) hx hb dX3_isSafe_9 (by decide) ?_
    have hPc := hP.sub (ws' := [(sm, .inr (3, [.int (nI d), .int (nI r), .int ld, .int pl, .ref so, .ref sq, .int li, .int tl, .int mo])), (so, .inl (cI, 4, .inl fo)), (sq, .inl (cI, 31, .inl fl))]) [0, 1, 2] rfl
    have hDc : va_D (fun q : Nat => L0 ≤ q) [(sm, .inr (3, [.int (nI d), .int (nI r), .int ld, .int pl, .ref so, .ref sq, .int li, .int tl, .int mo])), (so, .inl (cI, 4, .inl fo)), (sq, .inl (cI, 31, .inl fl))] := (hD.sub (ws' := [(sm, .inr (3, [.int (nI d), .int (nI r), .int ld, .int pl, .ref so, .ref sq, .int li, .int tl, .int mo])), (so, .inl (cI, 4, .inl fo)), (sq, .inl (cI, 31, .inl fl))]) [0, 1, 2] (by decide) rfl).weaken (fun _ z9 _ h9 => hAL _ h9)
    have hKc := hK.sub (tys' := [(cI, .int)]) [0] rfl
    have hFc := va_free (wc := [(sm, .inr (3, [.int (nI d), .int (nI r), .int ld, .int pl, .ref so, .ref sq, .int li, .int tl, .int mo])), (so, .inl (cI, 4, .inl fo)), (sq, .inl (cI, 31, .inl fl))]) hD hS hA [0, 1, 2] rfl
    refine c_callB (va_runV (As := [.int (nI 1)]) (rest := []) ⟨hx, hb, hml, hown, hts⟩ (s_strain l D L0 cI sm so sq d r ld pl li tl mo fo fl 1 (by decide) hd _) (cwV 1 hts gX3_isSafe_X3_strain rfl rfl rfl (by decide +kernel) ⟨Nat.le_of_ble_eq_true rfl, Nat.le_of_ble_eq_true rfl⟩) ⟨cPz_blind, va_recv hKc hPc (ci := 3) (q0 := 0) rfl rfl, cPz_of hPc hKc hDc (kE_at hE0 hAL hS)⟩ rfl rfl hl.1 rfl (lv_room (Nat.le_of_ble_eq_true rfl)) dX3_isSafe_10 ⟨Nat.le_of_ble_eq_true rfl, Nat.le_of_ble_eq_true rfl⟩) hS (fun z9 _ h9 => hFc z9 h9) hFc (fun H1 locs hB hz1 hk1 hS => ?_)
    obtain ⟨hP, hD⟩ := c_join (ws' := [(sm, .inr (3, [.int (nI d), .int (nI r), .int ld, .int pl, .ref so, .ref sq, .int li, .int tl, .int mo])), (so, .inl (cI, 4, .inl fo)), (sq, .inl (cI, 31, .inl fl))]) (wr := []) (w1 := [(sm, .inr (3, [.int (nI d), .int (nI r), .int ld, .int pl, .ref so, .ref sq, .int li, .int tl, .int mo])), (so, .inl (cI, 4, .inl fo)), (sq, .inl (cI, 31, .inl fl))]) hP hD [0, 1, 2] [] [0, 1, 2] rfl rfl (by decide) (by decide) (c_area hk1) hB rfl rfl rfl (by decide)
    generalize H1 = H at hP hS ⊢
    show W _ _ _ _ _ _ _ _ _ _ _ _ _ _ _ (F0 m 13 ls [.int (strS fo pl 1 ld d r)])
    refine lv_if_gt (tgt := 52) hx hb dX3_isSafe_13 (by decide) (fun c_4 => ?_) (fun c_4 => ?_)
    · refine lv_iconst (v := 0) hx hb dX3_isSafe_52 (by decide) ?_
      refine W.widen (k := 4) (n := 32) (Nat.le_of_ble_eq_true rfl) (Nat.le_of_ble_eq_true rfl) ?_
      exact W.zret (v := 0) hx hb hRt (rfl) (fun t ht hW => ⟨⟨by rw [safS_n1 (i_ltn c_4)], by rw [ht]; exact hP⟩, hS.F ht⟩) hS.2.2 dX3_isSafe_53
    · refine lv_aload_n hx hb dX3_isSafe_16 rfl (lv_at hl 0 rfl) ?_
      refine lv_iconst (v := 2) hx hb dX3_isSafe_17 (by decide) ?_
      have hPc := hP.sub (ws' := [(sm, .inr (3, [.int (nI d), .int (nI r), .int ld, .int pl, .ref so, .ref sq, .int li, .int tl, .int mo])), (so, .inl (cI, 4, .inl fo)), (sq, .inl (cI, 31, .inl fl))]) [0, 1, 2] rfl
      have hDc : va_D (fun q : Nat => L0 ≤ q) [(sm, .inr (3, [.int (nI d), .int (nI r), .int ld, .int pl, .ref so, .ref sq, .int li, .int tl, .int mo])), (so, .inl (cI, 4, .inl fo)), (sq, .inl (cI, 31, .inl fl))] := (hD.sub (ws' := [(sm, .inr (3, [.int (nI d), .int (nI r), .int ld, .int pl, .ref so, .ref sq, .int li, .int tl, .int mo])), (so, .inl (cI, 4, .inl fo)), (sq, .inl (cI, 31, .inl fl))]) [0, 1, 2] (by decide) rfl).weaken (fun _ z9 _ h9 => hAL _ h9)
      have hKc := hK.sub (tys' := [(cI, .int)]) [0] rfl
      have hFc := va_free (wc := [(sm, .inr (3, [.int (nI d), .int (nI r), .int ld, .int pl, .ref so, .ref sq, .int li, .int tl, .int mo])), (so, .inl (cI, 4, .inl fo)), (sq, .inl (cI, 31, .inl fl))]) hD hS hA [0, 1, 2] rfl
      refine c_callB (va_runV (As := [.int (nI 2)]) (rest := []) ⟨hx, hb, hml, hown, hts⟩ (s_strain l D L0 cI sm so sq d r ld pl li tl mo fo fl 2 (by decide) hd _) (cwV 1 hts gX3_isSafe_X3_strain rfl rfl rfl (by decide +kernel) ⟨Nat.le_of_ble_eq_true rfl, Nat.le_of_ble_eq_true rfl⟩) ⟨cPz_blind, va_recv hKc hPc (ci := 3) (q0 := 0) rfl rfl, cPz_of hPc hKc hDc (kE_at hE0 hAL hS)⟩ rfl rfl hl.1 rfl (lv_room (Nat.le_of_ble_eq_true rfl)) dX3_isSafe_18 ⟨Nat.le_of_ble_eq_true rfl, Nat.le_of_ble_eq_true rfl⟩) hS (fun z9 _ h9 => hFc z9 h9) hFc (fun H1 locs hB hz1 hk1 hS => ?_)
      obtain ⟨hP, hD⟩ := c_join (ws' := [(sm, .inr (3, [.int (nI d), .int (nI r), .int ld, .int pl, .ref so, .ref sq, .int li, .int tl, .int mo])), (so, .inl (cI, 4, .inl fo)), (sq, .inl (cI, 31, .inl fl))]) (wr := []) (w1 := [(sm, .inr (3, [.int (nI d), .int (nI r), .int ld, .int pl, .ref so, .ref sq, .int li, .int tl, .int mo])), (so, .inl (cI, 4, .inl fo)), (sq, .inl (cI, 31, .inl fl))]) hP hD [0, 1, 2] [] [0, 1, 2] rfl rfl (by decide) (by decide) (c_area hk1) hB rfl rfl rfl (by decide)
      generalize H1 = H at hP hS ⊢
      show W _ _ _ _ _ _ _ _ _ _ _ _ _ _ _ (F0 m 21 ls [.int (strS fo pl 2 ld d r)])
      refine lv_if_gt (tgt := 52) hx hb dX3_isSafe_21 (by decide) (fun c_5 => ?_) (fun c_5 => ?_)
      · refine lv_iconst (v := 0) hx hb dX3_isSafe_52 (by decide) ?_
        refine W.widen (k := 4) (n := 32) (Nat.le_of_ble_eq_true rfl) (Nat.le_of_ble_eq_true rfl) ?_
        exact W.zret (v := 0) hx hb hRt (rfl) (fun t ht hW => ⟨⟨by rw [safS_n2 (i_ltn c_5)], by rw [ht]; exact hP⟩, hS.F ht⟩) hS.2.2 dX3_isSafe_53
      · refine lv_aload_n hx hb dX3_isSafe_24 rfl (lv_at hl 0 rfl) ?_
        refine lv_iconst (v := 3) hx hb dX3_isSafe_25 (by decide) ?_
        have hPc := hP.sub (ws' := [(sm, .inr (3, [.int (nI d), .int (nI r), .int ld, .int pl, .ref so, .ref sq, .int li, .int tl, .int mo])), (so, .inl (cI, 4, .inl fo)), (sq, .inl (cI, 31, .inl fl))]) [0, 1, 2] rfl
        have hDc : va_D (fun q : Nat => L0 ≤ q) [(sm, .inr (3, [.int (nI d), .int (nI r), .int ld, .int pl, .ref so, .ref sq, .int li, .int tl, .int mo])), (so, .inl (cI, 4, .inl fo)), (sq, .inl (cI, 31, .inl fl))] := (hD.sub (ws' := [(sm, .inr (3, [.int (nI d), .int (nI r), .int ld, .int pl, .ref so, .ref sq, .int li, .int tl, .int mo])), (so, .inl (cI, 4, .inl fo)), (sq, .inl (cI, 31, .inl fl))]) [0, 1, 2] (by decide) rfl).weaken (fun _ z9 _ h9 => hAL _ h9)
        have hKc := hK.sub (tys' := [(cI, .int)]) [0] rfl
        have hFc := va_free (wc := [(sm, .inr (3, [.int (nI d), .int (nI r), .int ld, .int pl, .ref so, .ref sq, .int li, .int tl, .int mo])), (so, .inl (cI, 4, .inl fo)), (sq, .inl (cI, 31, .inl fl))]) hD hS hA [0, 1, 2] rfl
        refine c_callB (va_runV (As := [.int (nI 3)]) (rest := []) ⟨hx, hb, hml, hown, hts⟩ (s_strain l D L0 cI sm so sq d r ld pl li tl mo fo fl 3 (by decide) hd _) (cwV 1 hts gX3_isSafe_X3_strain rfl rfl rfl (by decide +kernel) ⟨Nat.le_of_ble_eq_true rfl, Nat.le_of_ble_eq_true rfl⟩) ⟨cPz_blind, va_recv hKc hPc (ci := 3) (q0 := 0) rfl rfl, cPz_of hPc hKc hDc (kE_at hE0 hAL hS)⟩ rfl rfl hl.1 rfl (lv_room (Nat.le_of_ble_eq_true rfl)) dX3_isSafe_26 ⟨Nat.le_of_ble_eq_true rfl, Nat.le_of_ble_eq_true rfl⟩) hS (fun z9 _ h9 => hFc z9 h9) hFc (fun H1 locs hB hz1 hk1 hS => ?_)
        obtain ⟨hP, hD⟩ := c_join (ws' := [(sm, .inr (3, [.int (nI d), .int (nI r), .int ld, .int pl, .ref so, .ref sq, .int li, .int tl, .int mo])), (so, .inl (cI, 4, .inl fo)), (sq, .inl (cI, 31, .inl fl))]) (wr := []) (w1 := [(sm, .inr (3, [.int (nI d), .int (nI r), .int ld, .int pl, .ref so, .ref sq, .int li, .int tl, .int mo])), (so, .inl (cI, 4, .inl fo)), (sq, .inl (cI, 31, .inl fl))]) hP hD [0, 1, 2] [] [0, 1, 2] rfl rfl (by decide) (by decide) (c_area hk1) hB rfl rfl rfl (by decide)
        generalize H1 = H at hP hS ⊢
        show W _ _ _ _ _ _ _ _ _ _ _ _ _ _ _ (F0 m 29 ls [.int (strS fo pl 3 ld d r)])
        refine lv_if_gt (tgt := 52) hx hb dX3_isSafe_29 (by decide) (fun c_6 => ?_) (fun c_6 => ?_)
        · refine lv_iconst (v := 0) hx hb dX3_isSafe_52 (by decide) ?_
          refine W.widen (k := 4) (n := 32) (Nat.le_of_ble_eq_true rfl) (Nat.le_of_ble_eq_true rfl) ?_
          exact W.zret (v := 0) hx hb hRt (rfl) (fun t ht hW => ⟨⟨by rw [safS_n3 (i_ltn c_6)], by rw [ht]; exact hP⟩, hS.F ht⟩) hS.2.2 dX3_isSafe_53
        · refine lv_aload_n hx hb dX3_isSafe_32 rfl (lv_at hl 0 rfl) ?_
          refine va_get (D := D) (ci := 3) (v := .int ld) (C := RX3) (T := TX3) (N := 9) hx hb hts hiX3 hown hK hP 0 rfl rfl 2 (by decide) (hts (.fieldLink RX3 24 "CraneReachLaw$Sim" "load" "I") (by decide +kernel)) (fun _ h9 => h9) rfl dX3_isSafe_33 ?_
          refine lv_aload_n hx hb dX3_isSafe_36 rfl (lv_at hl 0 rfl) ?_
          refine va_get (D := D) (ci := 3) (v := .ref sq) (C := RX3) (T := TX3) (N := 9) hx hb hts hiX3 hown hK hP 0 rfl rfl 5 (by decide) (hts (.fieldLink RX3 17 "CraneReachLaw$Sim" "limits" "[I") (by decide +kernel)) (fun _ h9 => h9) rfl dX3_isSafe_37 ?_
          refine lv_aload_n hx hb dX3_isSafe_40 rfl (lv_at hl 0 rfl) ?_
          refine va_get (D := D) (ci := 3) (v := .int (nI r)) (C := RX3) (T := TX3) (N := 9) hx hb hts hiX3 hown hK hP 0 rfl rfl 1 (by decide) (hts (.fieldLink RX3 7 "CraneReachLaw$Sim" "reach" "I") (by decide +kernel)) (fun _ h9 => h9) rfl dX3_isSafe_41 ?_
          refine va_iald hx hb hK hP 2 0 rfl rfl (vp_in_nI (by omega) (by decide)) dX3_isSafe_44 ?_
          refine c_top (show (fl (nI r).toNatClampNeg) = fl r from by rw [nI_clamp (by omega)]) ?_
          refine lv_icmp_gt (tgt := 52) hx hb dX3_isSafe_45 (by decide) (fun c_7 => ?_) (fun c_7 => ?_)
          · refine lv_iconst (v := 0) hx hb dX3_isSafe_52 (by decide) ?_
            refine W.widen (k := 4) (n := 32) (Nat.le_of_ble_eq_true rfl) (Nat.le_of_ble_eq_true rfl) ?_
            exact W.zret (v := 0) hx hb hRt (rfl) (fun t ht hW => ⟨⟨by rw [safS_no (i_ltn c_7)], by rw [ht]; exact hP⟩, hS.F ht⟩) hS.2.2 dX3_isSafe_53
          · refine lv_iconst (v := 1) hx hb dX3_isSafe_48 (by decide) ?_
            refine lv_goto (tgt := 53) hx hb dX3_isSafe_49 (by decide) ?_
            refine W.widen (k := 4) (n := 32) (Nat.le_of_ble_eq_true rfl) (Nat.le_of_ble_eq_true rfl) ?_
            exact W.zret (v := 1) hx hb hRt (rfl) (fun t ht hW => ⟨⟨by rw [safS_yes (i_nlt c_7) (i_nlt c_3) (i_nlt c_4) (i_nlt c_5) (i_nlt c_6)], by rw [ht]; exact hP⟩, hS.F ht⟩) hS.2.2 dX3_isSafe_53
set_option maxHeartbeats 4000000 in
set_option maxRecDepth 100000 in
/-- isSafe(its, d, r) -/
theorem s_isSafe (l : Launch) (D : va_G) (L0 : Nat) (cI : ClassId) (sm so sq d r : Nat) (ld pl li tl mo : Int32) (fo fl : Nat → Int32) (its : Int32) (d2 r2 : Nat) (hd2 : d2 < 8) (hr2 : 3 ≤ r2 ∧ r2 ≤ 30) (sz : Nat) : Met l yX3_isSafe_ wsX3_isSafe_ ({ frames := 3, cells := 5, slots := 35, locals := 56 }) (cPz L0 D [(cI, .int)] [(sm, .inr (3, [.int (nI d), .int (nI r), .int ld, .int pl, .ref so, .ref sq, .int li, .int tl, .int mo])), (so, .inl (cI, 4, .inl fo)), (sq, .inl (cI, 31, .inl fl))] [.ref sm, .int its, .int (nI d2), .int (nI r2)] sz) (cB (some (.int (bI (safS fo fl pl its d2 r2)))) (fun H => va_P D vwCl [(sm, .inr (3, [.int (nI d), .int (nI r), .int ld, .int pl, .ref so, .ref sq, .int li, .int tl, .int mo])), (so, .inl (cI, 4, .inl fo)), (sq, .inl (cI, 31, .inl fl))] H) (va_A [(sm, .inr (3, [.int (nI d), .int (nI r), .int ld, .int pl, .ref so, .ref sq, .int li, .int tl, .int mo])), (so, .inl (cI, 4, .inl fo)), (sq, .inl (cI, 31, .inl fl))] sz)) 5 35 (va_A [(sm, .inr (3, [.int (nI d), .int (nI r), .int ld, .int pl, .ref so, .ref sq, .int li, .int tl, .int mo])), (so, .inl (cI, 4, .inl fo)), (sq, .inl (cI, 31, .inl fl))] sz) := by
  refine Met.ofW (cc := cX3_isSafe_) (maxL := 6) (ret := (some .boolean)) (by decide) rfl ?_
  intro p e s m args below meth c s₁ B hml hv
  obtain ⟨⟨rfl, hP, hK, hD0, hE0⟩, rfl⟩ := hv
  have hx := B.exec
  have hb := B.bytes
  have hRt := B.returns
  have hts := atoms_spec (ws := wsX3_isSafe_) B.pre
  have hown : s.vm.findClass RX3 = some m.cls := findClass_of_methodNamed B.named
  have hlocks := B.notSynchronized
  have hAL : ∀ z9 : Nat, va_A [(sm, .inr (3, [.int (nI d), .int (nI r), .int ld, .int pl, .ref so, .ref sq, .int li, .int tl, .int mo])), (so, .inl (cI, 4, .inl fo)), (sq, .inl (cI, 31, .inl fl))] s.heap.size z9 → L0 ≤ z9 := fun z9 h9 => h9.elim (fun ⟨k9, e9, h8⟩ => hD0.2 k9 (z9, e9) h8) (fun h8 => Nat.le_trans hE0.1 h8)
  have hD : va_D (va_A [(sm, .inr (3, [.int (nI d), .int (nI r), .int ld, .int pl, .ref so, .ref sq, .int li, .int tl, .int mo])), (so, .inl (cI, 4, .inl fo)), (sq, .inl (cI, 31, .inl fl))] s.heap.size) [(sm, .inr (3, [.int (nI d), .int (nI r), .int ld, .int pl, .ref so, .ref sq, .int li, .int tl, .int mo])), (so, .inl (cI, 4, .inl fo)), (sq, .inl (cI, 31, .inl fl))] := hD0.self
  have hA : ∀ z9 : Nat, s.heap.size ≤ z9 → va_A [(sm, .inr (3, [.int (nI d), .int (nI r), .int ld, .int pl, .ref so, .ref sq, .int li, .int tl, .int mo])), (so, .inl (cI, 4, .inl fo)), (sq, .inl (cI, 31, .inl fl))] s.heap.size z9 := fun z9 h9 => Or.inr h9
  generalize hAe : va_A [(sm, .inr (3, [.int (nI d), .int (nI r), .int ld, .int pl, .ref so, .ref sq, .int li, .int tl, .int mo])), (so, .inl (cI, 4, .inl fo)), (sq, .inl (cI, 31, .inl fl))] s.heap.size = A at hD hAL hA ⊢
  have hS : va_S A s.heap s.heap [] := va_S.rf
  have hiX3 : ∀ w ∈ u_ws RX3 TX3 9, w ∈ wsX3_isSafe_ := by decide +kernel
  have hl := lv_entry ([.ref sm, .int its, .int (nI d2), .int (nI r2)]) (n := 6) (Nat.le_of_ble_eq_true rfl)
  rw [lg_entry_eq]
  generalize (lg_sl ([.ref sm, .int its, .int (nI d2), .int (nI r2)]) ++ List.replicate (6 - (lg_sl ([.ref sm, .int its, .int (nI d2), .int (nI r2)])).length) Slot.unset).toArray = ls at hl ⊢
  have hl : lv_has ls 6 [(0, .ref sm), (1, .int its), (2, .int (nI d2)), (3, .int (nI r2))] := hl
  refine lv_iconst (v := 3) hx hb dX3_isSafe__0 (by decide) ?_
  refine va_newa (atype := .int) (ty := .int) (a0 := (3, .inl (fun _ => 0))) (N' := 3) hx hb (hts (.arrayClass .int) (by decide +kernel)) rfl hK hP hD hS hA (fun _ => rfl) (by decide) (by decide) (Nat.le_of_ble_eq_true rfl) (Nat.le_of_ble_eq_true rfl) (Nat.le_of_ble_eq_true rfl) dX3_isSafe__1 (fun ar cA H hK hP hD hS => ?_)
  have eA : cA = cI := Option.some.inj ((hK.2 1 _ rfl).2.symm.trans (hK.2 0 _ rfl).2)
  rw [eA] at hP hD
  have hK := hK.sub (tys' := [(cI, .int)]) [0] rfl
  have hP : va_P D vwCl [(sm, .inr (3, [.int (nI d), .int (nI r), .int ld, .int pl, .ref so, .ref sq, .int li, .int tl, .int mo])), (so, .inl (cI, 4, .inl fo)), (sq, .inl (cI, 31, .inl fl)), (ar, .inl (cI, 3, .inl (fun _ => 0)))] H := hP
  have hD : va_D A [(sm, .inr (3, [.int (nI d), .int (nI r), .int ld, .int pl, .ref so, .ref sq, .int li, .int tl, .int mo])), (so, .inl (cI, 4, .inl fo)), (sq, .inl (cI, 31, .inl fl)), (ar, .inl (cI, 3, .inl (fun _ => 0)))] := hD
  refine lv_dup hx hb dX3_isSafe__3 rfl ?_
  refine lv_iconst (v := 0) hx hb dX3_isSafe__4 (by decide) ?_
  refine lv_aload_n hx hb dX3_isSafe__5 rfl (lv_at hl 0 rfl) ?_
  refine va_get (D := D) (ci := 3) (v := .int ld) (C := RX3) (T := TX3) (N := 9) hx hb hts hiX3 hown hK hP 0 rfl rfl 2 (by decide) (hts (.fieldLink RX3 24 "CraneReachLaw$Sim" "load" "I") (by decide +kernel)) (fun _ h9 => h9) rfl dX3_isSafe__6 ?_
  refine va_iast hx hb hK hP hD hS 3 0 rfl rfl (vp_in_nI (n := 0) (by decide) (by decide)) dX3_isSafe__9 (fun H locs hP hD hS => ?_)
  have hP : va_P D vwCl [(sm, .inr (3, [.int (nI d), .int (nI r), .int ld, .int pl, .ref so, .ref sq, .int li, .int tl, .int mo])), (so, .inl (cI, 4, .inl fo)), (sq, .inl (cI, 31, .inl fl)), (ar, .inl (cI, 3, .inl (upd (fun _ => 0) ((0 : Int32)).toNatClampNeg ld)))] H := hP
  have hD : va_D A [(sm, .inr (3, [.int (nI d), .int (nI r), .int ld, .int pl, .ref so, .ref sq, .int li, .int tl, .int mo])), (so, .inl (cI, 4, .inl fo)), (sq, .inl (cI, 31, .inl fl)), (ar, .inl (cI, 3, .inl (upd (fun _ => 0) ((0 : Int32)).toNatClampNeg ld)))] := hD
  rw [show ((0 : Int32)).toNatClampNeg = 0 from by decide] at hP hD
  have hP : va_P D vwCl [(sm, .inr (3, [.int (nI d), .int (nI r), .int ld, .int pl, .ref so, .ref sq, .int li, .int tl, .int mo])), (so, .inl (cI, 4, .inl fo)), (sq, .inl (cI, 31, .inl fl)), (ar, .inl (cI, 3, .inl (upd (fun _ => 0) 0 ld)))] H := hP
  have hD : va_D A [(sm, .inr (3, [.int (nI d), .int (nI r), .int ld, .int pl, .ref so, .ref sq, .int li, .int tl, .int mo])), (so, .inl (cI, 4, .inl fo)), (sq, .inl (cI, 31, .inl fl)), (ar, .inl (cI, 3, .inl (upd (fun _ => 0) 0 ld)))] := hD
  refine lv_dup hx hb dX3_isSafe__10 rfl ?_
  refine lv_iconst (v := 1) hx hb dX3_isSafe__11 (by decide) ?_
  refine lv_aload_n hx hb dX3_isSafe__12 rfl (lv_at hl 0 rfl) ?_
  refine va_get (D := D) (ci := 3) (v := .int (nI d)) (C := RX3) (T := TX3) (N := 9) hx hb hts hiX3 hown hK hP 0 rfl rfl 0 (by decide) (hts (.fieldLink RX3 21 "CraneReachLaw$Sim" "direction" "I") (by decide +kernel)) (fun _ h9 => h9) rfl dX3_isSafe__13 ?_
  refine va_iast hx hb hK hP hD hS 3 0 rfl rfl (vp_in_nI (n := 1) (by decide) (by decide)) dX3_isSafe__16 (fun H locs hP hD hS => ?_)
  have hP : va_P D vwCl [(sm, .inr (3, [.int (nI d), .int (nI r), .int ld, .int pl, .ref so, .ref sq, .int li, .int tl, .int mo])), (so, .inl (cI, 4, .inl fo)), (sq, .inl (cI, 31, .inl fl)), (ar, .inl (cI, 3, .inl (upd (upd (fun _ => 0) 0 ld) ((1 : Int32)).toNatClampNeg (nI d))))] H := hP
  have hD : va_D A [(sm, .inr (3, [.int (nI d), .int (nI r), .int ld, .int pl, .ref so, .ref sq, .int li, .int tl, .int mo])), (so, .inl (cI, 4, .inl fo)), (sq, .inl (cI, 31, .inl fl)), (ar, .inl (cI, 3, .inl (upd (upd (fun _ => 0) 0 ld) ((1 : Int32)).toNatClampNeg (nI d))))] := hD
  rw [show ((1 : Int32)).toNatClampNeg = 1 from by decide] at hP hD
  have hP : va_P D vwCl [(sm, .inr (3, [.int (nI d), .int (nI r), .int ld, .int pl, .ref so, .ref sq, .int li, .int tl, .int mo])), (so, .inl (cI, 4, .inl fo)), (sq, .inl (cI, 31, .inl fl)), (ar, .inl (cI, 3, .inl (upd (upd (fun _ => 0) 0 ld) 1 (nI d))))] H := hP
  have hD : va_D A [(sm, .inr (3, [.int (nI d), .int (nI r), .int ld, .int pl, .ref so, .ref sq, .int li, .int tl, .int mo])), (so, .inl (cI, 4, .inl fo)), (sq, .inl (cI, 31, .inl fl)), (ar, .inl (cI, 3, .inl (upd (upd (fun _ => 0) 0 ld) 1 (nI d))))] := hD
  refine lv_dup hx hb dX3_isSafe__17 rfl ?_
  refine lv_iconst (v := 2) hx hb dX3_isSafe__18 (by decide) ?_
  refine lv_aload_n hx hb dX3_isSafe__19 rfl (lv_at hl 0 rfl) ?_
  refine va_get (D := D) (ci := 3) (v := .int (nI r)) (C := RX3) (T := TX3) (N := 9) hx hb hts hiX3 hown hK hP 0 rfl rfl 1 (by decide) (hts (.fieldLink RX3 7 "CraneReachLaw$Sim" "reach" "I") (by decide +kernel)) (fun _ h9 => h9) rfl dX3_isSafe__20 ?_
  refine va_iast hx hb hK hP hD hS 3 0 rfl rfl (vp_in_nI (n := 2) (by decide) (by decide)) dX3_isSafe__23 (fun H locs hP hD hS => ?_)
  have hP : va_P D vwCl [(sm, .inr (3, [.int (nI d), .int (nI r), .int ld, .int pl, .ref so, .ref sq, .int li, .int tl, .int mo])), (so, .inl (cI, 4, .inl fo)), (sq, .inl (cI, 31, .inl fl)), (ar, .inl (cI, 3, .inl (upd (upd (upd (fun _ => 0) 0 ld) 1 (nI d)) ((2 : Int32)).toNatClampNeg (nI r))))] H := hP
  have hD : va_D A [(sm, .inr (3, [.int (nI d), .int (nI r), .int ld, .int pl, .ref so, .ref sq, .int li, .int tl, .int mo])), (so, .inl (cI, 4, .inl fo)), (sq, .inl (cI, 31, .inl fl)), (ar, .inl (cI, 3, .inl (upd (upd (upd (fun _ => 0) 0 ld) 1 (nI d)) ((2 : Int32)).toNatClampNeg (nI r))))] := hD
  rw [show ((2 : Int32)).toNatClampNeg = 2 from by decide] at hP hD
  have hP : va_P D vwCl [(sm, .inr (3, [.int (nI d), .int (nI r), .int ld, .int pl, .ref so, .ref sq, .int li, .int tl, .int mo])), (so, .inl (cI, 4, .inl fo)), (sq, .inl (cI, 31, .inl fl)), (ar, .inl (cI, 3, .inl (upd (upd (upd (fun _ => 0) 0 ld) 1 (nI d)) 2 (nI r))))] H := hP
  have hD : va_D A [(sm, .inr (3, [.int (nI d), .int (nI r), .int ld, .int pl, .ref so, .ref sq, .int li, .int tl, .int mo])), (so, .inl (cI, 4, .inl fo)), (sq, .inl (cI, 31, .inl fl)), (ar, .inl (cI, 3, .inl (upd (upd (upd (fun _ => 0) 0 ld) 1 (nI d)) 2 (nI r))))] := hD
  refine lv_astore (lv' := [(4, .ref ar), (0, .ref sm), (1, .int its), (2, .int (nI d2)), (3, .int (nI r2))]) hx hb dX3_isSafe__24 hl (by decide) rfl (fun ls hl => ?_)
  refine lv_aload_n hx hb dX3_isSafe__26 rfl (lv_at hl 1 rfl) ?_
  refine lv_iload_n hx hb dX3_isSafe__27 rfl (lv_at hl 2 rfl) ?_
  refine va_put (D := D) (ci := 3) (v := .int its) (ty := .int) (C := RX3) (T := TX3) (N := 9) hx hb hts hiX3 tyX3 tyX3_ok nmX3 hown hK hP hD hS 0 rfl rfl 2 (by decide) (hts (.fieldLink RX3 24 "CraneReachLaw$Sim" "load" "I") (by decide +kernel)) (fun _ h9 => h9) rfl (by decide +kernel) rfl rfl (Nat.le_of_ble_eq_true rfl) dX3_isSafe__28 (fun H locs hP hD hS => ?_)
  have hP : va_P D vwCl [(sm, .inr (3, [.int (nI d), .int (nI r), .int its, .int pl, .ref so, .ref sq, .int li, .int tl, .int mo])), (so, .inl (cI, 4, .inl fo)), (sq, .inl (cI, 31, .inl fl)), (ar, .inl (cI, 3, .inl (upd (upd (upd (fun _ => 0) 0 ld) 1 (nI d)) 2 (nI r))))] H := hP
  have hD : va_D A [(sm, .inr (3, [.int (nI d), .int (nI r), .int its, .int pl, .ref so, .ref sq, .int li, .int tl, .int mo])), (so, .inl (cI, 4, .inl fo)), (sq, .inl (cI, 31, .inl fl)), (ar, .inl (cI, 3, .inl (upd (upd (upd (fun _ => 0) 0 ld) 1 (nI d)) 2 (nI r))))] := hD
  refine lv_aload_n hx hb dX3_isSafe__31 rfl (lv_at hl 1 rfl) ?_
  refine lv_iload_n hx hb dX3_isSafe__32 rfl (lv_at hl 3 rfl) ?_
  refine va_put (D := D) (ci := 3) (v := .int (nI d2)) (ty := .int) (C := RX3) (T := TX3) (N := 9) hx hb hts hiX3 tyX3 tyX3_ok nmX3 hown hK hP hD hS 0 rfl rfl 0 (by decide) (hts (.fieldLink RX3 21 "CraneReachLaw$Sim" "direction" "I") (by decide +kernel)) (fun _ h9 => h9) rfl (by decide +kernel) rfl rfl (Nat.le_of_ble_eq_true rfl) dX3_isSafe__33 (fun H locs hP hD hS => ?_)
  have hP : va_P D vwCl [(sm, .inr (3, [.int (nI d2), .int (nI r), .int its, .int pl, .ref so, .ref sq, .int li, .int tl, .int mo])), (so, .inl (cI, 4, .inl fo)), (sq, .inl (cI, 31, .inl fl)), (ar, .inl (cI, 3, .inl (upd (upd (upd (fun _ => 0) 0 ld) 1 (nI d)) 2 (nI r))))] H := hP
  have hD : va_D A [(sm, .inr (3, [.int (nI d2), .int (nI r), .int its, .int pl, .ref so, .ref sq, .int li, .int tl, .int mo])), (so, .inl (cI, 4, .inl fo)), (sq, .inl (cI, 31, .inl fl)), (ar, .inl (cI, 3, .inl (upd (upd (upd (fun _ => 0) 0 ld) 1 (nI d)) 2 (nI r))))] := hD
  refine lv_aload_n hx hb dX3_isSafe__36 rfl (lv_at hl 1 rfl) ?_
  refine lv_iload_n hx hb dX3_isSafe__37 rfl (lv_at hl 4 rfl) ?_
  refine va_put (D := D) (ci := 3) (v := .int (nI r2)) (ty := .int) (C := RX3) (T := TX3) (N := 9) hx hb hts hiX3 tyX3 tyX3_ok nmX3 hown hK hP hD hS 0 rfl rfl 1 (by decide) (hts (.fieldLink RX3 7 "CraneReachLaw$Sim" "reach" "I") (by decide +kernel)) (fun _ h9 => h9) rfl (by decide +kernel) rfl rfl (Nat.le_of_ble_eq_true rfl) dX3_isSafe__38 (fun H locs hP hD hS => ?_)
  have hP : va_P D vwCl [(sm, .inr (3, [.int (nI d2), .int (nI r2), .int its, .int pl, .ref so, .ref sq, .int li, .int tl, .int mo])), (so, .inl (cI, 4, .inl fo)), (sq, .inl (cI, 31, .inl fl)), (ar, .inl (cI, 3, .inl (upd (upd (upd (fun _ => 0) 0 ld) 1 (nI d)) 2 (nI r))))] H := hP
  have hD : va_D A [(sm, .inr (3, [.int (nI d2), .int (nI r2), .int its, .int pl, .ref so, .ref sq, .int li, .int tl, .int mo])), (so, .inl (cI, 4, .inl fo)), (sq, .inl (cI, 31, .inl fl)), (ar, .inl (cI, 3, .inl (upd (upd (upd (fun _ => 0) 0 ld) 1 (nI d)) 2 (nI r))))] := hD
  refine lv_aload_n hx hb dX3_isSafe__41 rfl (lv_at hl 1 rfl) ?_
  have hPc := hP.sub (ws' := [(sm, .inr (3, [.int (nI d2), .int (nI r2), .int its, .int pl, .ref so, .ref sq, .int li, .int tl, .int mo])), (so, .inl (cI, 4, .inl fo)), (sq, .inl (cI, 31, .inl fl))]) [0, 1, 2] rfl
  have hDc : va_D (fun q : Nat => L0 ≤ q) [(sm, .inr (3, [.int (nI d2), .int (nI r2), .int its, .int pl, .ref so, .ref sq, .int li, .int tl, .int mo])), (so, .inl (cI, 4, .inl fo)), (sq, .inl (cI, 31, .inl fl))] := (hD.sub (ws' := [(sm, .inr (3, [.int (nI d2), .int (nI r2), .int its, .int pl, .ref so, .ref sq, .int li, .int tl, .int mo])), (so, .inl (cI, 4, .inl fo)), (sq, .inl (cI, 31, .inl fl))]) [0, 1, 2] (by decide) rfl).weaken (fun _ z9 _ h9 => hAL _ h9)
  have hKc := hK.sub (tys' := [(cI, .int)]) [0] rfl
  have hFc := va_free (wc := [(sm, .inr (3, [.int (nI d2), .int (nI r2), .int its, .int pl, .ref so, .ref sq, .int li, .int tl, .int mo])), (so, .inl (cI, 4, .inl fo)), (sq, .inl (cI, 31, .inl fl))]) hD hS hA [0, 1, 2] rfl
  refine c_callB (va_runV (As := []) (rest := []) ⟨hx, hb, hml, hown, hts⟩ (s_isSafe0 l D L0 cI sm so sq d2 r2 its pl li tl mo fo fl hd2 hr2 _) (cwV 0 hts gX3_isSafe__X3_isSafe rfl rfl rfl (by decide +kernel) ⟨Nat.le_of_ble_eq_true rfl, Nat.le_of_ble_eq_true rfl⟩) ⟨cPz_blind, va_recv hKc hPc (ci := 3) (q0 := 0) rfl rfl, cPz_of hPc hKc hDc (kE_at hE0 hAL hS)⟩ rfl rfl hl.1 rfl (lv_room (Nat.le_of_ble_eq_true rfl)) dX3_isSafe__42 ⟨Nat.le_of_ble_eq_true rfl, Nat.le_of_ble_eq_true rfl⟩) hS (fun z9 _ h9 => hFc z9 h9) hFc (fun H1 locs hB hz1 hk1 hS => ?_)
  obtain ⟨hP, hD⟩ := c_join (ws' := [(sm, .inr (3, [.int (nI d2), .int (nI r2), .int its, .int pl, .ref so, .ref sq, .int li, .int tl, .int mo])), (so, .inl (cI, 4, .inl fo)), (sq, .inl (cI, 31, .inl fl)), (ar, .inl (cI, 3, .inl (upd (upd (upd (fun _ => 0) 0 ld) 1 (nI d)) 2 (nI r))))]) (wr := [(ar, .inl (cI, 3, .inl (upd (upd (upd (fun _ => 0) 0 ld) 1 (nI d)) 2 (nI r))))]) (w1 := [(sm, .inr (3, [.int (nI d2), .int (nI r2), .int its, .int pl, .ref so, .ref sq, .int li, .int tl, .int mo])), (so, .inl (cI, 4, .inl fo)), (sq, .inl (cI, 31, .inl fl))]) hP hD [0, 1, 2] [3] [1, 2, 3, 0] rfl rfl (by decide) (by decide) (c_area hk1) hB rfl rfl rfl (by decide)
  generalize H1 = H at hP hS ⊢
  show W _ _ _ _ _ _ _ _ _ _ _ _ _ _ _ (F0 m 45 ls [.int (bI (safS fo fl pl its d2 r2))])
  refine lv_istore (lv' := [(5, .int (bI (safS fo fl pl its d2 r2))), (4, .ref ar), (0, .ref sm), (1, .int its), (2, .int (nI d2)), (3, .int (nI r2))]) hx hb dX3_isSafe__45 hl (by decide) rfl (fun ls hl => ?_)
  refine lv_aload_n hx hb dX3_isSafe__47 rfl (lv_at hl 2 rfl) ?_
  refine lv_aload hx hb dX3_isSafe__48 (lv_at hl 1 rfl) ?_
  refine lv_iconst (v := 0) hx hb dX3_isSafe__50 (by decide) ?_
  refine va_iald hx hb hK hP 3 0 rfl rfl (vp_in_nI (n := 0) (by decide) (by decide)) dX3_isSafe__51 ?_
  refine c_top (show ((upd (upd (upd (fun _ => 0) 0 ld) 1 (nI d)) 2 (nI r)) ((0 : Int32)).toNatClampNeg) = ld from rfl) ?_
  refine va_put (D := D) (ci := 3) (v := .int ld) (ty := .int) (C := RX3) (T := TX3) (N := 9) hx hb hts hiX3 tyX3 tyX3_ok nmX3 hown hK hP hD hS 0 rfl rfl 2 (by decide) (hts (.fieldLink RX3 24 "CraneReachLaw$Sim" "load" "I") (by decide +kernel)) (fun _ h9 => h9) rfl (by decide +kernel) rfl rfl (Nat.le_of_ble_eq_true rfl) dX3_isSafe__52 (fun H locs hP hD hS => ?_)
  have hP : va_P D vwCl [(sm, .inr (3, [.int (nI d2), .int (nI r2), .int ld, .int pl, .ref so, .ref sq, .int li, .int tl, .int mo])), (so, .inl (cI, 4, .inl fo)), (sq, .inl (cI, 31, .inl fl)), (ar, .inl (cI, 3, .inl (upd (upd (upd (fun _ => 0) 0 ld) 1 (nI d)) 2 (nI r))))] H := hP
  have hD : va_D A [(sm, .inr (3, [.int (nI d2), .int (nI r2), .int ld, .int pl, .ref so, .ref sq, .int li, .int tl, .int mo])), (so, .inl (cI, 4, .inl fo)), (sq, .inl (cI, 31, .inl fl)), (ar, .inl (cI, 3, .inl (upd (upd (upd (fun _ => 0) 0 ld) 1 (nI d)) 2 (nI r))))] := hD
  refine lv_aload_n hx hb dX3_isSafe__55 rfl (lv_at hl 2 rfl) ?_
  refine lv_aload hx hb dX3_isSafe__56 (lv_at hl 1 rfl) ?_
  refine lv_iconst (v := 1) hx hb dX3_isSafe__58 (by decide) ?_
  refine va_iald hx hb hK hP 3 0 rfl rfl (vp_in_nI (n := 1) (by decide) (by decide)) dX3_isSafe__59 ?_
  refine c_top (show ((upd (upd (upd (fun _ => 0) 0 ld) 1 (nI d)) 2 (nI r)) ((1 : Int32)).toNatClampNeg) = nI d from rfl) ?_
  refine va_put (D := D) (ci := 3) (v := .int (nI d)) (ty := .int) (C := RX3) (T := TX3) (N := 9) hx hb hts hiX3 tyX3 tyX3_ok nmX3 hown hK hP hD hS 0 rfl rfl 0 (by decide) (hts (.fieldLink RX3 21 "CraneReachLaw$Sim" "direction" "I") (by decide +kernel)) (fun _ h9 => h9) rfl (by decide +kernel) rfl rfl (Nat.le_of_ble_eq_true rfl) dX3_isSafe__60 (fun H locs hP hD hS => ?_)
  have hP : va_P D vwCl [(sm, .inr (3, [.int (nI d), .int (nI r2), .int ld, .int pl, .ref so, .ref sq, .int li, .int tl, .int mo])), (so, .inl (cI, 4, .inl fo)), (sq, .inl (cI, 31, .inl fl)), (ar, .inl (cI, 3, .inl (upd (upd (upd (fun _ => 0) 0 ld) 1 (nI d)) 2 (nI r))))] H := hP
  have hD : va_D A [(sm, .inr (3, [.int (nI d), .int (nI r2), .int ld, .int pl, .ref so, .ref sq, .int li, .int tl, .int mo])), (so, .inl (cI, 4, .inl fo)), (sq, .inl (cI, 31, .inl fl)), (ar, .inl (cI, 3, .inl (upd (upd (upd (fun _ => 0) 0 ld) 1 (nI d)) 2 (nI r))))] := hD
  refine lv_aload_n hx hb dX3_isSafe__63 rfl (lv_at hl 2 rfl) ?_
  refine lv_aload hx hb dX3_isSafe__64 (lv_at hl 1 rfl) ?_
  refine lv_iconst (v := 2) hx hb dX3_isSafe__66 (by decide) ?_
  refine va_iald hx hb hK hP 3 0 rfl rfl (vp_in_nI (n := 2) (by decide) (by decide)) dX3_isSafe__67 ?_
  refine c_top (show ((upd (upd (upd (fun _ => 0) 0 ld) 1 (nI d)) 2 (nI r)) ((2 : Int32)).toNatClampNeg) = nI r from rfl) ?_
  refine va_put (D := D) (ci := 3) (v := .int (nI r)) (ty := .int) (C := RX3) (T := TX3) (N := 9) hx hb hts hiX3 tyX3 tyX3_ok nmX3 hown hK hP hD hS 0 rfl rfl 1 (by decide) (hts (.fieldLink RX3 7 "CraneReachLaw$Sim" "reach" "I") (by decide +kernel)) (fun _ h9 => h9) rfl (by decide +kernel) rfl rfl (Nat.le_of_ble_eq_true rfl) dX3_isSafe__68 (fun H locs hP hD hS => ?_)
  have hP : va_P D vwCl [(sm, .inr (3, [.int (nI d), .int (nI r), .int ld, .int pl, .ref so, .ref sq, .int li, .int tl, .int mo])), (so, .inl (cI, 4, .inl fo)), (sq, .inl (cI, 31, .inl fl)), (ar, .inl (cI, 3, .inl (upd (upd (upd (fun _ => 0) 0 ld) 1 (nI d)) 2 (nI r))))] H := hP
  have hD : va_D A [(sm, .inr (3, [.int (nI d), .int (nI r), .int ld, .int pl, .ref so, .ref sq, .int li, .int tl, .int mo])), (so, .inl (cI, 4, .inl fo)), (sq, .inl (cI, 31, .inl fl)), (ar, .inl (cI, 3, .inl (upd (upd (upd (fun _ => 0) 0 ld) 1 (nI d)) 2 (nI r))))] := hD
  refine lv_iload hx hb dX3_isSafe__71 (lv_at hl 0 rfl) ?_
  refine W.widen (k := 5) (n := 35) (Nat.le_of_ble_eq_true rfl) (Nat.le_of_ble_eq_true rfl) ?_
  exact W.zret (v := (bI (safS fo fl pl its d2 r2))) hx hb hRt (bI_nar _) (fun t ht hW => ⟨⟨rfl, by rw [ht]; exact hP.sub [0, 1, 2] rfl⟩, hS.F ht⟩) hS.2.2 dX3_isSafe__73
