set_option maxHeartbeats 4000000 in
set_option maxRecDepth 100000 in
/-- isSame(m) -/
theorem s_isSame (l : Launch) (D : va_G) (L0 : Nat) (cI : ClassId) (x rg tr pn ro rl sm so sq d r : Nat) (ld pl li tl mo : Int32) (fo fl : Nat → Int32) (hd : d < 8) (hr : 3 ≤ r ∧ r ≤ 30) (hg : ∃ k, k ≤ 60 ∧ safS fo fl pl (nI k) d r = true) (sz : Nat) : Met l yX3_isSame wsX3_isSame ({ frames := 5, cells := 317, slots := 2231, locals := 103 }) (cPz L0 D [(cI, .int)] [(x, .inr (2, [.ref rg, .ref tr, .ref pn, .int (nI d), .int (nI r), .int ld, .int li, .int tl, .int mo])), (rg, .inr (1, [.ref ro, .ref rl, .int pl])), (ro, .inl (cI, 4, .inl fo)), (rl, .inl (cI, 28, .inl (sh fl))), (sm, .inr (3, [.int (nI d), .int (nI r), .int ld, .int pl, .ref so, .ref sq, .int li, .int tl, .int mo])), (so, .inl (cI, 4, .inl fo)), (sq, .inl (cI, 31, .inl fl))] [.ref sm, .ref x] sz) (cB (some (.int 1)) (fun H => va_P D vwCl [(x, .inr (2, [.ref rg, .ref tr, .ref pn, .int (nI d), .int (nI r), .int ld, .int li, .int tl, .int mo])), (rg, .inr (1, [.ref ro, .ref rl, .int pl])), (ro, .inl (cI, 4, .inl fo)), (rl, .inl (cI, 28, .inl (sh fl))), (sm, .inr (3, [.int (nI d), .int (nI r), .int ld, .int pl, .ref so, .ref sq, .int li, .int tl, .int mo])), (so, .inl (cI, 4, .inl fo)), (sq, .inl (cI, 31, .inl fl))] H) (va_A [(x, .inr (2, [.ref rg, .ref tr, .ref pn, .int (nI d), .int (nI r), .int ld, .int li, .int tl, .int mo])), (rg, .inr (1, [.ref ro, .ref rl, .int pl])), (ro, .inl (cI, 4, .inl fo)), (rl, .inl (cI, 28, .inl (sh fl))), (sm, .inr (3, [.int (nI d), .int (nI r), .int ld, .int pl, .ref so, .ref sq, .int li, .int tl, .int mo])), (so, .inl (cI, 4, .inl fo)), (sq, .inl (cI, 31, .inl fl))] sz)) 317 2231 (va_A [(x, .inr (2, [.ref rg, .ref tr, .ref pn, .int (nI d), .int (nI r), .int ld, .int li, .int tl, .int mo])), (rg, .inr (1, [.ref ro, .ref rl, .int pl])), (ro, .inl (cI, 4, .inl fo)), (rl, .inl (cI, 28, .inl (sh fl))), (sm, .inr (3, [.int (nI d), .int (nI r), .int ld, .int pl, .ref so, .ref sq, .int li, .int tl, .int mo])), (so, .inl (cI, 4, .inl fo)), (sq, .inl (cI, 31, .inl fl))] sz) := by
  refine Met.ofW (cc := cX3_isSame) (maxL := 4) (ret := (some .boolean)) (by decide) rfl ?_
  intro p e s m args below meth c s₁ B hml hv
  obtain ⟨⟨rfl, hP, hK, hD0, hE0⟩, rfl⟩ := hv
  have hx := B.exec
  have hb := B.bytes
  have hRt := B.returns
  have hts := atoms_spec (ws := wsX3_isSame) B.pre
  have hown : s.vm.findClass RX3 = some m.cls := findClass_of_methodNamed B.named
  have hlocks := B.notSynchronized
  have hAL : ∀ z9 : Nat, va_A [(x, .inr (2, [.ref rg, .ref tr, .ref pn, .int (nI d), .int (nI r), .int ld, .int li, .int tl, .int mo])), (rg, .inr (1, [.ref ro, .ref rl, .int pl])), (ro, .inl (cI, 4, .inl fo)), (rl, .inl (cI, 28, .inl (sh fl))), (sm, .inr (3, [.int (nI d), .int (nI r), .int ld, .int pl, .ref so, .ref sq, .int li, .int tl, .int mo])), (so, .inl (cI, 4, .inl fo)), (sq, .inl (cI, 31, .inl fl))] s.heap.size z9 → L0 ≤ z9 := fun z9 h9 => h9.elim (fun ⟨k9, e9, h8⟩ => hD0.2 k9 (z9, e9) h8) (fun h8 => Nat.le_trans hE0.1 h8)
  have hD : va_D (va_A [(x, .inr (2, [.ref rg, .ref tr, .ref pn, .int (nI d), .int (nI r), .int ld, .int li, .int tl, .int mo])), (rg, .inr (1, [.ref ro, .ref rl, .int pl])), (ro, .inl (cI, 4, .inl fo)), (rl, .inl (cI, 28, .inl (sh fl))), (sm, .inr (3, [.int (nI d), .int (nI r), .int ld, .int pl, .ref so, .ref sq, .int li, .int tl, .int mo])), (so, .inl (cI, 4, .inl fo)), (sq, .inl (cI, 31, .inl fl))] s.heap.size) [(x, .inr (2, [.ref rg, .ref tr, .ref pn, .int (nI d), .int (nI r), .int ld, .int li, .int tl, .int mo])), (rg, .inr (1, [.ref ro, .ref rl, .int pl])), (ro, .inl (cI, 4, .inl fo)), (rl, .inl (cI, 28, .inl (sh fl))), (sm, .inr (3, [.int (nI d), .int (nI r), .int ld, .int pl, .ref so, .ref sq, .int li, .int tl, .int mo])), (so, .inl (cI, 4, .inl fo)), (sq, .inl (cI, 31, .inl fl))] := hD0.self
  have hA : ∀ z9 : Nat, s.heap.size ≤ z9 → va_A [(x, .inr (2, [.ref rg, .ref tr, .ref pn, .int (nI d), .int (nI r), .int ld, .int li, .int tl, .int mo])), (rg, .inr (1, [.ref ro, .ref rl, .int pl])), (ro, .inl (cI, 4, .inl fo)), (rl, .inl (cI, 28, .inl (sh fl))), (sm, .inr (3, [.int (nI d), .int (nI r), .int ld, .int pl, .ref so, .ref sq, .int li, .int tl, .int mo])), (so, .inl (cI, 4, .inl fo)), (sq, .inl (cI, 31, .inl fl))] s.heap.size z9 := fun z9 h9 => Or.inr h9
  generalize hAe : va_A [(x, .inr (2, [.ref rg, .ref tr, .ref pn, .int (nI d), .int (nI r), .int ld, .int li, .int tl, .int mo])), (rg, .inr (1, [.ref ro, .ref rl, .int pl])), (ro, .inl (cI, 4, .inl fo)), (rl, .inl (cI, 28, .inl (sh fl))), (sm, .inr (3, [.int (nI d), .int (nI r), .int ld, .int pl, .ref so, .ref sq, .int li, .int tl, .int mo])), (so, .inl (cI, 4, .inl fo)), (sq, .inl (cI, 31, .inl fl))] s.heap.size = A at hD hAL hA ⊢
  have hS : va_S A s.heap s.heap [] := va_S.rf
  have hiX3 : ∀ w ∈ u_ws RX3 TX3 9, w ∈ wsX3_isSame := by decide +kernel
  have hl := lv_entry ([.ref sm, .ref x]) (n := 4) (Nat.le_of_ble_eq_true rfl)
  rw [lg_entry_eq]
  generalize (lg_sl ([.ref sm, .ref x]) ++ List.replicate (4 - (lg_sl ([.ref sm, .ref x])).length) Slot.unset).toArray = ls at hl ⊢
  have hl : lv_has ls 4 [(0, .ref sm), (1, .ref x)] := hl
  have loop2 : ∀ (n : Nat) (i : Nat) (wv : Nat) (H : Heap) (locs : List Loc) (ls : Array Slot), i + n = 31 → 3 ≤ i → wv = wdN (fun k => strS fo pl k ld d r) 4 → lv_has ls 4 [(3, .int (nI i)), (0, .ref sm), (1, .ref x), (2, .int (nI wv))] → va_P D vwCl [(x, .inr (2, [.ref rg, .ref tr, .ref pn, .int (nI d), .int (nI r), .int ld, .int li, .int tl, .int mo])), (rg, .inr (1, [.ref ro, .ref rl, .int pl])), (ro, .inl (cI, 4, .inl fo)), (rl, .inl (cI, 28, .inl (sh fl))), (sm, .inr (3, [.int (nI d), .int (nI r), .int ld, .int pl, .ref so, .ref sq, .int li, .int tl, .int mo])), (so, .inl (cI, 4, .inl fo)), (sq, .inl (cI, 31, .inl fl))] H → va_D A [(x, .inr (2, [.ref rg, .ref tr, .ref pn, .int (nI d), .int (nI r), .int ld, .int li, .int tl, .int mo])), (rg, .inr (1, [.ref ro, .ref rl, .int pl])), (ro, .inl (cI, 4, .inl fo)), (rl, .inl (cI, 28, .inl (sh fl))), (sm, .inr (3, [.int (nI d), .int (nI r), .int ld, .int pl, .ref so, .ref sq, .int li, .int tl, .int mo])), (so, .inl (cI, 4, .inl fo)), (sq, .inl (cI, 31, .inl fl))] → va_S A s.heap H locs → W p l e (headSpec wsX3_isSame ({ frames := 5, cells := 317, slots := 2231, locals := 103 })).room s m ([.ref sm, .ref x]).toArray below meth c H locs 12 96 (MQ below (cB (some (.int 1)) (fun H => va_P D vwCl [(x, .inr (2, [.ref rg, .ref tr, .ref pn, .int (nI d), .int (nI r), .int ld, .int li, .int tl, .int mo])), (rg, .inr (1, [.ref ro, .ref rl, .int pl])), (ro, .inl (cI, 4, .inl fo)), (rl, .inl (cI, 28, .inl (sh fl))), (sm, .inr (3, [.int (nI d), .int (nI r), .int ld, .int pl, .ref so, .ref sq, .int li, .int tl, .int mo])), (so, .inl (cI, 4, .inl fo)), (sq, .inl (cI, 31, .inl fl))] H) A) ([.ref sm, .ref x]).toArray s 317 2231 A) (F0 m 60 ls []) := by
    intro n
    induction n with
    | zero =>
      intro i wv H locs ls hn h3 hwv hl hP hD hS
      have hi : i = 31 := by omega
      rw [hi] at hl
      refine lv_iload_n hx hb dX3_isSame_60 rfl (lv_at hl 0 rfl) ?_
      refine lv_bipush (v := 31) hx hb dX3_isSame_61 (by decide) ?_
      refine lv_icmp_ge (tgt := 88) hx hb dX3_isSame_63 (by decide) (fun _ => ?_) (fun c_17 => absurd (by decide) c_17)
      refine lv_aload_n hx hb dX3_isSame_88 rfl (lv_at hl 2 rfl) ?_
      have hPc := hP.sub (ws' := [(x, .inr (2, [.ref rg, .ref tr, .ref pn, .int (nI d), .int (nI r), .int ld, .int li, .int tl, .int mo]))]) [0] rfl
      have hDc : va_D (fun q : Nat => L0 ≤ q) [(x, .inr (2, [.ref rg, .ref tr, .ref pn, .int (nI d), .int (nI r), .int ld, .int li, .int tl, .int mo]))] := (hD.sub (ws' := [(x, .inr (2, [.ref rg, .ref tr, .ref pn, .int (nI d), .int (nI r), .int ld, .int li, .int tl, .int mo]))]) [0] (by decide) rfl).weaken (fun _ z9 _ h9 => hAL _ h9)
      have hKc := hK.sub (tys' := []) [] rfl
      refine c_callR (va_runV (As := []) (rest := []) ⟨hx, hb, hml, hown, hts⟩ (k_direction l D L0 x rg tr pn d r ld li tl mo) (cwV 0 hts gX3_isSame_X2_direction rfl rfl rfl (by decide +kernel) ⟨Nat.le_of_ble_eq_true rfl, Nat.le_of_ble_eq_true rfl⟩) ⟨cP_blind, va_recv hKc hPc (ci := 2) (q0 := 0) rfl rfl, cP_of hPc hKc hDc (kE_at hE0 hAL hS)⟩ rfl rfl hl.1 rfl (lv_room (Nat.le_of_ble_eq_true rfl)) dX3_isSame_89 ⟨Nat.le_of_ble_eq_true rfl, Nat.le_of_ble_eq_true rfl⟩) ?_
      show W _ _ _ _ _ _ _ _ _ _ _ _ _ _ _ (F0 m 92 ls [.int (nI d)])
      refine lv_aload_n hx hb dX3_isSame_92 rfl (lv_at hl 1 rfl) ?_
      refine va_get (D := D) (ci := 3) (v := .int (nI d)) (C := RX3) (T := TX3) (N := 9) hx hb hts hiX3 hown hK hP 4 rfl rfl 0 (by decide) (hts (.fieldLink RX3 21 "CraneReachLaw$Sim" "direction" "I") (by decide +kernel)) (fun _ h9 => h9) rfl dX3_isSame_93 ?_
      refine lv_icmp_ne (tgt := 218) hx hb dX3_isSame_96 (by decide) (fun c_18 => absurd (rfl) c_18) (fun _ => ?_)
      refine lv_aload_n hx hb dX3_isSame_99 rfl (lv_at hl 2 rfl) ?_
      have hPc := hP.sub (ws' := [(x, .inr (2, [.ref rg, .ref tr, .ref pn, .int (nI d), .int (nI r), .int ld, .int li, .int tl, .int mo]))]) [0] rfl
      have hDc : va_D (fun q : Nat => L0 ≤ q) [(x, .inr (2, [.ref rg, .ref tr, .ref pn, .int (nI d), .int (nI r), .int ld, .int li, .int tl, .int mo]))] := (hD.sub (ws' := [(x, .inr (2, [.ref rg, .ref tr, .ref pn, .int (nI d), .int (nI r), .int ld, .int li, .int tl, .int mo]))]) [0] (by decide) rfl).weaken (fun _ z9 _ h9 => hAL _ h9)
      have hKc := hK.sub (tys' := []) [] rfl
      refine c_callR (va_runV (As := []) (rest := []) ⟨hx, hb, hml, hown, hts⟩ (k_reach l D L0 x rg tr pn d r ld li tl mo) (cwV 0 hts gX3_isSame_X2_reach rfl rfl rfl (by decide +kernel) ⟨Nat.le_of_ble_eq_true rfl, Nat.le_of_ble_eq_true rfl⟩) ⟨cP_blind, va_recv hKc hPc (ci := 2) (q0 := 0) rfl rfl, cP_of hPc hKc hDc (kE_at hE0 hAL hS)⟩ rfl rfl hl.1 rfl (lv_room (Nat.le_of_ble_eq_true rfl)) dX3_isSame_100 ⟨Nat.le_of_ble_eq_true rfl, Nat.le_of_ble_eq_true rfl⟩) ?_
      show W _ _ _ _ _ _ _ _ _ _ _ _ _ _ _ (F0 m 103 ls [.int (nI r)])
      refine lv_aload_n hx hb dX3_isSame_103 rfl (lv_at hl 1 rfl) ?_
      refine va_get (D := D) (ci := 3) (v := .int (nI r)) (C := RX3) (T := TX3) (N := 9) hx hb hts hiX3 hown hK hP 4 rfl rfl 1 (by decide) (hts (.fieldLink RX3 7 "CraneReachLaw$Sim" "reach" "I") (by decide +kernel)) (fun _ h9 => h9) rfl dX3_isSame_104 ?_
      refine lv_icmp_ne (tgt := 218) hx hb dX3_isSame_107 (by decide) (fun c_19 => absurd (rfl) c_19) (fun _ => ?_)
      refine lv_aload_n hx hb dX3_isSame_110 rfl (lv_at hl 2 rfl) ?_
      have hPc := hP.sub (ws' := [(x, .inr (2, [.ref rg, .ref tr, .ref pn, .int (nI d), .int (nI r), .int ld, .int li, .int tl, .int mo]))]) [0] rfl
      have hDc : va_D (fun q : Nat => L0 ≤ q) [(x, .inr (2, [.ref rg, .ref tr, .ref pn, .int (nI d), .int (nI r), .int ld, .int li, .int tl, .int mo]))] := (hD.sub (ws' := [(x, .inr (2, [.ref rg, .ref tr, .ref pn, .int (nI d), .int (nI r), .int ld, .int li, .int tl, .int mo]))]) [0] (by decide) rfl).weaken (fun _ z9 _ h9 => hAL _ h9)
      have hKc := hK.sub (tys' := []) [] rfl
      refine c_callR (va_runV (As := []) (rest := []) ⟨hx, hb, hml, hown, hts⟩ (k_load l D L0 x rg tr pn d r ld li tl mo) (cwV 0 hts gX3_isSame_X2_load rfl rfl rfl (by decide +kernel) ⟨Nat.le_of_ble_eq_true rfl, Nat.le_of_ble_eq_true rfl⟩) ⟨cP_blind, va_recv hKc hPc (ci := 2) (q0 := 0) rfl rfl, cP_of hPc hKc hDc (kE_at hE0 hAL hS)⟩ rfl rfl hl.1 rfl (lv_room (Nat.le_of_ble_eq_true rfl)) dX3_isSame_111 ⟨Nat.le_of_ble_eq_true rfl, Nat.le_of_ble_eq_true rfl⟩) ?_
      show W _ _ _ _ _ _ _ _ _ _ _ _ _ _ _ (F0 m 114 ls [.int ld])
      refine lv_aload_n hx hb dX3_isSame_114 rfl (lv_at hl 1 rfl) ?_
      refine va_get (D := D) (ci := 3) (v := .int ld) (C := RX3) (T := TX3) (N := 9) hx hb hts hiX3 hown hK hP 4 rfl rfl 2 (by decide) (hts (.fieldLink RX3 24 "CraneReachLaw$Sim" "load" "I") (by decide +kernel)) (fun _ h9 => h9) rfl dX3_isSame_115 ?_
      refine lv_icmp_ne (tgt := 218) hx hb dX3_isSame_118 (by decide) (fun c_20 => absurd (rfl) c_20) (fun _ => ?_)
      refine lv_aload_n hx hb dX3_isSame_121 rfl (lv_at hl 2 rfl) ?_
      have hPc := hP.sub (ws' := [(x, .inr (2, [.ref rg, .ref tr, .ref pn, .int (nI d), .int (nI r), .int ld, .int li, .int tl, .int mo])), (rg, .inr (1, [.ref ro, .ref rl, .int pl])), (ro, .inl (cI, 4, .inl fo)), (rl, .inl (cI, 28, .inl (sh fl)))]) [0, 1, 2, 3] rfl
      have hDc : va_D (fun q : Nat => L0 ≤ q) [(x, .inr (2, [.ref rg, .ref tr, .ref pn, .int (nI d), .int (nI r), .int ld, .int li, .int tl, .int mo])), (rg, .inr (1, [.ref ro, .ref rl, .int pl])), (ro, .inl (cI, 4, .inl fo)), (rl, .inl (cI, 28, .inl (sh fl)))] := (hD.sub (ws' := [(x, .inr (2, [.ref rg, .ref tr, .ref pn, .int (nI d), .int (nI r), .int ld, .int li, .int tl, .int mo])), (rg, .inr (1, [.ref ro, .ref rl, .int pl])), (ro, .inl (cI, 4, .inl fo)), (rl, .inl (cI, 28, .inl (sh fl)))]) [0, 1, 2, 3] (by decide) rfl).weaken (fun _ z9 _ h9 => hAL _ h9)
      have hKc := hK.sub (tys' := [(cI, .int)]) [0] rfl
      refine c_callR (va_runV (As := []) (rest := []) ⟨hx, hb, hml, hown, hts⟩ (k_plates l D L0 cI x rg tr pn ro rl d r ld li tl mo pl fo fl) (cwV 0 hts gX3_isSame_X2_plates rfl rfl rfl (by decide +kernel) ⟨Nat.le_of_ble_eq_true rfl, Nat.le_of_ble_eq_true rfl⟩) ⟨cP_blind, va_recv hKc hPc (ci := 2) (q0 := 0) rfl rfl, cP_of hPc hKc hDc (kE_at hE0 hAL hS)⟩ rfl rfl hl.1 rfl (lv_room (Nat.le_of_ble_eq_true rfl)) dX3_isSame_122 ⟨Nat.le_of_ble_eq_true rfl, Nat.le_of_ble_eq_true rfl⟩) ?_
      show W _ _ _ _ _ _ _ _ _ _ _ _ _ _ _ (F0 m 125 ls [.int pl])
      refine lv_aload_n hx hb dX3_isSame_125 rfl (lv_at hl 1 rfl) ?_
      refine va_get (D := D) (ci := 3) (v := .int pl) (C := RX3) (T := TX3) (N := 9) hx hb hts hiX3 hown hK hP 4 rfl rfl 3 (by decide) (hts (.fieldLink RX3 27 "CraneReachLaw$Sim" "plates" "I") (by decide +kernel)) (fun _ h9 => h9) rfl dX3_isSame_126 ?_
      refine lv_icmp_ne (tgt := 218) hx hb dX3_isSame_129 (by decide) (fun c_21 => absurd (rfl) c_21) (fun _ => ?_)
      refine lv_aload_n hx hb dX3_isSame_132 rfl (lv_at hl 2 rfl) ?_
      have hPc := hP.sub (ws' := [(x, .inr (2, [.ref rg, .ref tr, .ref pn, .int (nI d), .int (nI r), .int ld, .int li, .int tl, .int mo])), (rg, .inr (1, [.ref ro, .ref rl, .int pl])), (ro, .inl (cI, 4, .inl fo)), (rl, .inl (cI, 28, .inl (sh fl)))]) [0, 1, 2, 3] rfl
      have hDc : va_D (fun q : Nat => L0 ≤ q) [(x, .inr (2, [.ref rg, .ref tr, .ref pn, .int (nI d), .int (nI r), .int ld, .int li, .int tl, .int mo])), (rg, .inr (1, [.ref ro, .ref rl, .int pl])), (ro, .inl (cI, 4, .inl fo)), (rl, .inl (cI, 28, .inl (sh fl)))] := (hD.sub (ws' := [(x, .inr (2, [.ref rg, .ref tr, .ref pn, .int (nI d), .int (nI r), .int ld, .int li, .int tl, .int mo])), (rg, .inr (1, [.ref ro, .ref rl, .int pl])), (ro, .inl (cI, 4, .inl fo)), (rl, .inl (cI, 28, .inl (sh fl)))]) [0, 1, 2, 3] (by decide) rfl).weaken (fun _ z9 _ h9 => hAL _ h9)
      have hKc := hK.sub (tys' := [(cI, .int)]) [0] rfl
      refine c_callR (va_runV (As := []) (rest := []) ⟨hx, hb, hml, hown, hts⟩ (k_weakestSide l D L0 cI x rg tr pn ro rl d r ld li tl mo pl fo fl hd) (cwV 0 hts gX3_isSame_X2_weakestSide rfl rfl rfl (by decide +kernel) ⟨Nat.le_of_ble_eq_true rfl, Nat.le_of_ble_eq_true rfl⟩) ⟨cP_blind, va_recv hKc hPc (ci := 2) (q0 := 0) rfl rfl, cP_of hPc hKc hDc (kE_at hE0 hAL hS)⟩ rfl rfl hl.1 rfl (lv_room (Nat.le_of_ble_eq_true rfl)) dX3_isSame_133 ⟨Nat.le_of_ble_eq_true rfl, Nat.le_of_ble_eq_true rfl⟩) ?_
      show W _ _ _ _ _ _ _ _ _ _ _ _ _ _ _ (F0 m 136 ls [.int (nI (wkN (fun k => strS fo pl k ld d r) 4))])
      refine lv_iload_n hx hb dX3_isSame_136 rfl (lv_at hl 3 rfl) ?_
      refine lv_icmp_ne (tgt := 218) hx hb dX3_isSame_137 (by decide) (fun c_22 => absurd (by rw [hwv]; exact congrArg nI wd_wk) c_22) (fun _ => ?_)
      refine lv_aload_n hx hb dX3_isSame_140 rfl (lv_at hl 2 rfl) ?_
      have hPc := hP.sub (ws' := [(x, .inr (2, [.ref rg, .ref tr, .ref pn, .int (nI d), .int (nI r), .int ld, .int li, .int tl, .int mo]))]) [0] rfl
      have hDc : va_D (fun q : Nat => L0 ≤ q) [(x, .inr (2, [.ref rg, .ref tr, .ref pn, .int (nI d), .int (nI r), .int ld, .int li, .int tl, .int mo]))] := (hD.sub (ws' := [(x, .inr (2, [.ref rg, .ref tr, .ref pn, .int (nI d), .int (nI r), .int ld, .int li, .int tl, .int mo]))]) [0] (by decide) rfl).weaken (fun _ z9 _ h9 => hAL _ h9)
      have hKc := hK.sub (tys' := []) [] rfl
      refine c_callR (va_runV (As := []) (rest := []) ⟨hx, hb, hml, hown, hts⟩ (k_lifts l D L0 x rg tr pn d r ld li tl mo) (cwV 0 hts gX3_isSame_X2_lifts rfl rfl rfl (by decide +kernel) ⟨Nat.le_of_ble_eq_true rfl, Nat.le_of_ble_eq_true rfl⟩) ⟨cP_blind, va_recv hKc hPc (ci := 2) (q0 := 0) rfl rfl, cP_of hPc hKc hDc (kE_at hE0 hAL hS)⟩ rfl rfl hl.1 rfl (lv_room (Nat.le_of_ble_eq_true rfl)) dX3_isSame_141 ⟨Nat.le_of_ble_eq_true rfl, Nat.le_of_ble_eq_true rfl⟩) ?_
      show W _ _ _ _ _ _ _ _ _ _ _ _ _ _ _ (F0 m 144 ls [.int li])
      refine lv_aload_n hx hb dX3_isSame_144 rfl (lv_at hl 1 rfl) ?_
      refine va_get (D := D) (ci := 3) (v := .int li) (C := RX3) (T := TX3) (N := 9) hx hb hts hiX3 hown hK hP 4 rfl rfl 6 (by decide) (hts (.fieldLink RX3 35 "CraneReachLaw$Sim" "lifts" "I") (by decide +kernel)) (fun _ h9 => h9) rfl dX3_isSame_145 ?_
      refine lv_icmp_ne (tgt := 218) hx hb dX3_isSame_148 (by decide) (fun c_23 => absurd (rfl) c_23) (fun _ => ?_)
      refine lv_aload_n hx hb dX3_isSame_151 rfl (lv_at hl 2 rfl) ?_
      have hPc := hP.sub (ws' := [(x, .inr (2, [.ref rg, .ref tr, .ref pn, .int (nI d), .int (nI r), .int ld, .int li, .int tl, .int mo]))]) [0] rfl
      have hDc : va_D (fun q : Nat => L0 ≤ q) [(x, .inr (2, [.ref rg, .ref tr, .ref pn, .int (nI d), .int (nI r), .int ld, .int li, .int tl, .int mo]))] := (hD.sub (ws' := [(x, .inr (2, [.ref rg, .ref tr, .ref pn, .int (nI d), .int (nI r), .int ld, .int li, .int tl, .int mo]))]) [0] (by decide) rfl).weaken (fun _ z9 _ h9 => hAL _ h9)
      have hKc := hK.sub (tys' := []) [] rfl
      refine c_callR (va_runV (As := []) (rest := []) ⟨hx, hb, hml, hown, hts⟩ (k_tonsLifted l D L0 x rg tr pn d r ld li tl mo) (cwV 0 hts gX3_isSame_X2_tonsLifted rfl rfl rfl (by decide +kernel) ⟨Nat.le_of_ble_eq_true rfl, Nat.le_of_ble_eq_true rfl⟩) ⟨cP_blind, va_recv hKc hPc (ci := 2) (q0 := 0) rfl rfl, cP_of hPc hKc hDc (kE_at hE0 hAL hS)⟩ rfl rfl hl.1 rfl (lv_room (Nat.le_of_ble_eq_true rfl)) dX3_isSame_152 ⟨Nat.le_of_ble_eq_true rfl, Nat.le_of_ble_eq_true rfl⟩) ?_
      show W _ _ _ _ _ _ _ _ _ _ _ _ _ _ _ (F0 m 155 ls [.int tl])
      refine lv_aload_n hx hb dX3_isSame_155 rfl (lv_at hl 1 rfl) ?_
      refine va_get (D := D) (ci := 3) (v := .int tl) (C := RX3) (T := TX3) (N := 9) hx hb hts hiX3 hown hK hP 4 rfl rfl 7 (by decide) (hts (.fieldLink RX3 38 "CraneReachLaw$Sim" "tons" "I") (by decide +kernel)) (fun _ h9 => h9) rfl dX3_isSame_156 ?_
      refine lv_icmp_ne (tgt := 218) hx hb dX3_isSame_159 (by decide) (fun c_24 => absurd (rfl) c_24) (fun _ => ?_)
      refine lv_aload_n hx hb dX3_isSame_162 rfl (lv_at hl 2 rfl) ?_
      have hPc := hP.sub (ws' := [(x, .inr (2, [.ref rg, .ref tr, .ref pn, .int (nI d), .int (nI r), .int ld, .int li, .int tl, .int mo]))]) [0] rfl
      have hDc : va_D (fun q : Nat => L0 ≤ q) [(x, .inr (2, [.ref rg, .ref tr, .ref pn, .int (nI d), .int (nI r), .int ld, .int li, .int tl, .int mo]))] := (hD.sub (ws' := [(x, .inr (2, [.ref rg, .ref tr, .ref pn, .int (nI d), .int (nI r), .int ld, .int li, .int tl, .int mo]))]) [0] (by decide) rfl).weaken (fun _ z9 _ h9 => hAL _ h9)
      have hKc := hK.sub (tys' := []) [] rfl
      refine c_callR (va_runV (As := []) (rest := []) ⟨hx, hb, hml, hown, hts⟩ (k_movesWithLoad l D L0 x rg tr pn d r ld li tl mo) (cwV 0 hts gX3_isSame_X2_movesWithLoad rfl rfl rfl (by decide +kernel) ⟨Nat.le_of_ble_eq_true rfl, Nat.le_of_ble_eq_true rfl⟩) ⟨cP_blind, va_recv hKc hPc (ci := 2) (q0 := 0) rfl rfl, cP_of hPc hKc hDc (kE_at hE0 hAL hS)⟩ rfl rfl hl.1 rfl (lv_room (Nat.le_of_ble_eq_true rfl)) dX3_isSame_163 ⟨Nat.le_of_ble_eq_true rfl, Nat.le_of_ble_eq_true rfl⟩) ?_
      show W _ _ _ _ _ _ _ _ _ _ _ _ _ _ _ (F0 m 166 ls [.int mo])
      refine lv_aload_n hx hb dX3_isSame_166 rfl (lv_at hl 1 rfl) ?_
      refine va_get (D := D) (ci := 3) (v := .int mo) (C := RX3) (T := TX3) (N := 9) hx hb hts hiX3 hown hK hP 4 rfl rfl 8 (by decide) (hts (.fieldLink RX3 41 "CraneReachLaw$Sim" "moves" "I") (by decide +kernel)) (fun _ h9 => h9) rfl dX3_isSame_167 ?_
      refine lv_icmp_ne (tgt := 218) hx hb dX3_isSame_170 (by decide) (fun c_25 => absurd (rfl) c_25) (fun _ => ?_)
      refine lv_aload_n hx hb dX3_isSame_173 rfl (lv_at hl 2 rfl) ?_
      have hPc := hP.sub (ws' := [(x, .inr (2, [.ref rg, .ref tr, .ref pn, .int (nI d), .int (nI r), .int ld, .int li, .int tl, .int mo])), (rg, .inr (1, [.ref ro, .ref rl, .int pl])), (ro, .inl (cI, 4, .inl fo)), (rl, .inl (cI, 28, .inl (sh fl)))]) [0, 1, 2, 3] rfl
      have hDc : va_D (fun q : Nat => L0 ≤ q) [(x, .inr (2, [.ref rg, .ref tr, .ref pn, .int (nI d), .int (nI r), .int ld, .int li, .int tl, .int mo])), (rg, .inr (1, [.ref ro, .ref rl, .int pl])), (ro, .inl (cI, 4, .inl fo)), (rl, .inl (cI, 28, .inl (sh fl)))] := (hD.sub (ws' := [(x, .inr (2, [.ref rg, .ref tr, .ref pn, .int (nI d), .int (nI r), .int ld, .int li, .int tl, .int mo])), (rg, .inr (1, [.ref ro, .ref rl, .int pl])), (ro, .inl (cI, 4, .inl fo)), (rl, .inl (cI, 28, .inl (sh fl)))]) [0, 1, 2, 3] (by decide) rfl).weaken (fun _ z9 _ h9 => hAL _ h9)
      have hKc := hK.sub (tys' := [(cI, .int)]) [0] rfl
      refine c_callR (va_runV (As := []) (rest := []) ⟨hx, hb, hml, hown, hts⟩ (k_greatestLoad l D L0 cI x rg tr pn ro rl d r ld li tl mo pl fo fl hd hr) (cwV 0 hts gX3_isSame_X2_greatestLoad rfl rfl rfl (by decide +kernel) ⟨Nat.le_of_ble_eq_true rfl, Nat.le_of_ble_eq_true rfl⟩) ⟨cP_blind, va_recv hKc hPc (ci := 2) (q0 := 0) rfl rfl, cP_of hPc hKc hDc (kE_at hE0 hAL hS)⟩ rfl rfl hl.1 rfl (lv_room (Nat.le_of_ble_eq_true rfl)) dX3_isSame_174 ⟨Nat.le_of_ble_eq_true rfl, Nat.le_of_ble_eq_true rfl⟩) ?_
      show W _ _ _ _ _ _ _ _ _ _ _ _ _ _ _ (F0 m 177 ls [.int (nI (grN (fun k => safS fo fl pl (nI k) d r) 60))])
      refine lv_aload_n hx hb dX3_isSame_177 rfl (lv_at hl 1 rfl) ?_
      have hPc := hP.sub (ws' := [(sm, .inr (3, [.int (nI d), .int (nI r), .int ld, .int pl, .ref so, .ref sq, .int li, .int tl, .int mo])), (so, .inl (cI, 4, .inl fo)), (sq, .inl (cI, 31, .inl fl))]) [4, 5, 6] rfl
      have hDc : va_D (fun q : Nat => L0 ≤ q) [(sm, .inr (3, [.int (nI d), .int (nI r), .int ld, .int pl, .ref so, .ref sq, .int li, .int tl, .int mo])), (so, .inl (cI, 4, .inl fo)), (sq, .inl (cI, 31, .inl fl))] := (hD.sub (ws' := [(sm, .inr (3, [.int (nI d), .int (nI r), .int ld, .int pl, .ref so, .ref sq, .int li, .int tl, .int mo])), (so, .inl (cI, 4, .inl fo)), (sq, .inl (cI, 31, .inl fl))]) [4, 5, 6] (by decide) rfl).weaken (fun _ z9 _ h9 => hAL _ h9)
      have hKc := hK.sub (tys' := [(cI, .int)]) [0] rfl
      have hFc := va_free (wc := [(sm, .inr (3, [.int (nI d), .int (nI r), .int ld, .int pl, .ref so, .ref sq, .int li, .int tl, .int mo])), (so, .inl (cI, 4, .inl fo)), (sq, .inl (cI, 31, .inl fl))]) hD hS hA [4, 5, 6] rfl
      refine c_callB (va_runV (As := []) (rest := [.int (nI (grN (fun k => safS fo fl pl (nI k) d r) 60))]) ⟨hx, hb, hml, hown, hts⟩ (s_greatest l D L0 cI sm so sq d r ld pl li tl mo fo fl hd hr _) (cwV 0 hts gX3_isSame_X3_greatest rfl rfl rfl (by decide +kernel) ⟨Nat.le_of_ble_eq_true rfl, Nat.le_of_ble_eq_true rfl⟩) ⟨cPz_blind, va_recv hKc hPc (ci := 3) (q0 := 0) rfl rfl, cPz_of hPc hKc hDc (kE_at hE0 hAL hS)⟩ rfl rfl hl.1 rfl (lv_room (Nat.le_of_ble_eq_true rfl)) dX3_isSame_178 ⟨Nat.le_of_ble_eq_true rfl, Nat.le_of_ble_eq_true rfl⟩) hS (fun z9 _ h9 => hFc z9 h9) hFc (fun H1 locs hB hz1 hk1 hS => ?_)
      obtain ⟨hP, hD⟩ := c_join (ws' := [(x, .inr (2, [.ref rg, .ref tr, .ref pn, .int (nI d), .int (nI r), .int ld, .int li, .int tl, .int mo])), (rg, .inr (1, [.ref ro, .ref rl, .int pl])), (ro, .inl (cI, 4, .inl fo)), (rl, .inl (cI, 28, .inl (sh fl))), (sm, .inr (3, [.int (nI d), .int (nI r), .int ld, .int pl, .ref so, .ref sq, .int li, .int tl, .int mo])), (so, .inl (cI, 4, .inl fo)), (sq, .inl (cI, 31, .inl fl))]) (wr := [(x, .inr (2, [.ref rg, .ref tr, .ref pn, .int (nI d), .int (nI r), .int ld, .int li, .int tl, .int mo])), (rg, .inr (1, [.ref ro, .ref rl, .int pl])), (ro, .inl (cI, 4, .inl fo)), (rl, .inl (cI, 28, .inl (sh fl)))]) (w1 := [(sm, .inr (3, [.int (nI d), .int (nI r), .int ld, .int pl, .ref so, .ref sq, .int li, .int tl, .int mo])), (so, .inl (cI, 4, .inl fo)), (sq, .inl (cI, 31, .inl fl))]) hP hD [4, 5, 6] [0, 1, 2, 3] [0, 1, 2, 3, 4, 5, 6] rfl rfl (by decide) (by decide) (c_area hk1) hB rfl rfl rfl (by decide)
      generalize H1 = H at hP hS ⊢
      show W _ _ _ _ _ _ _ _ _ _ _ _ _ _ _ (F0 m 181 ls [.int (gbN (fun k => safS fo fl pl (nI k) d r) 61), .int (nI (grN (fun k => safS fo fl pl (nI k) d r) 60))])
      refine lv_icmp_ne (tgt := 218) hx hb dX3_isSame_181 (by decide) (fun c_26 => absurd ((gbN_gr (sf := (fun k => safS fo fl pl (nI k) d r)) (n := 60) hg).symm) c_26) (fun _ => ?_)
      refine lv_aload_n hx hb dX3_isSame_184 rfl (lv_at hl 2 rfl) ?_
      have hPc := hP.sub (ws' := [(x, .inr (2, [.ref rg, .ref tr, .ref pn, .int (nI d), .int (nI r), .int ld, .int li, .int tl, .int mo]))]) [0] rfl
      have hDc : va_D (fun q : Nat => L0 ≤ q) [(x, .inr (2, [.ref rg, .ref tr, .ref pn, .int (nI d), .int (nI r), .int ld, .int li, .int tl, .int mo]))] := (hD.sub (ws' := [(x, .inr (2, [.ref rg, .ref tr, .ref pn, .int (nI d), .int (nI r), .int ld, .int li, .int tl, .int mo]))]) [0] (by decide) rfl).weaken (fun _ z9 _ h9 => hAL _ h9)
      have hKc := hK.sub (tys' := []) [] rfl
      refine c_callR (va_runV (As := []) (rest := []) ⟨hx, hb, hml, hown, hts⟩ (k_mean l D L0 x rg tr pn d r ld li tl mo) (cwV 0 hts gX3_isSame_X2_meanLoad rfl rfl rfl (by decide +kernel) ⟨Nat.le_of_ble_eq_true rfl, Nat.le_of_ble_eq_true rfl⟩) ⟨cP_blind, va_recv hKc hPc (ci := 2) (q0 := 0) rfl rfl, cP_of hPc hKc hDc (kE_at hE0 hAL hS)⟩ rfl rfl hl.1 rfl (lv_room (Nat.le_of_ble_eq_true rfl)) dX3_isSame_185 ⟨Nat.le_of_ble_eq_true rfl, Nat.le_of_ble_eq_true rfl⟩) ?_
      show W _ _ _ _ _ _ _ _ _ _ _ _ _ _ _ (F0 m 188 ls [.double (mnS li tl)])
      refine lv_aload_n hx hb dX3_isSame_188 rfl (lv_at hl 1 rfl) ?_
      refine va_get (D := D) (ci := 3) (v := .int li) (C := RX3) (T := TX3) (N := 9) hx hb hts hiX3 hown hK hP 4 rfl rfl 6 (by decide) (hts (.fieldLink RX3 35 "CraneReachLaw$Sim" "lifts" "I") (by decide +kernel)) (fun _ h9 => h9) rfl dX3_isSame_189 ?_
      refine lv_if_ne (tgt := 199) hx hb dX3_isSame_192 (by decide) (fun c_27 => ?_) (fun c_27 => ?_)
      · refine lv_aload_n hx hb dX3_isSame_199 rfl (lv_at hl 1 rfl) ?_
        refine va_get (D := D) (ci := 3) (v := .int tl) (C := RX3) (T := TX3) (N := 9) hx hb hts hiX3 hown hK hP 4 rfl rfl 7 (by decide) (hts (.fieldLink RX3 38 "CraneReachLaw$Sim" "tons" "I") (by decide +kernel)) (fun _ h9 => h9) rfl dX3_isSame_200 ?_
        refine lv_i2d hx hb dX3_isSame_203 ?_
        refine lv_aload_n hx hb dX3_isSame_204 rfl (lv_at hl 1 rfl) ?_
        refine va_get (D := D) (ci := 3) (v := .int li) (C := RX3) (T := TX3) (N := 9) hx hb hts hiX3 hown hK hP 4 rfl rfl 6 (by decide) (hts (.fieldLink RX3 35 "CraneReachLaw$Sim" "lifts" "I") (by decide +kernel)) (fun _ h9 => h9) rfl dX3_isSame_205 ?_
        refine lv_i2d hx hb dX3_isSame_208 ?_
        refine lv_ddiv hx hb dX3_isSame_209 (fl_n64 (fl_div c_27)) ?_
        refine W.eq (g2 := F0 m 210 ls [.double (mnS li tl), .double (mnS li tl)]) (by rw [show mnS li tl = FP.ddiv (FP.i2d tl) (FP.i2d li) from by rw [mnS, if_neg c_27]]) ?_
        refine lv_dcmp hx hb dX3_isSame_210 ?_
        refine c_top (show (Op.cmpValue (FP.dcmp (mnS li tl) (mnS li tl)) CmpOp.l) = 0 from mn_cmp li tl) ?_
        refine lv_if_ne (tgt := 218) hx hb dX3_isSame_211 (by decide) (fun c_28 => absurd (rfl) c_28) (fun _ => ?_)
        refine lv_iconst (v := 1) hx hb dX3_isSame_214 (by decide) ?_
        refine lv_goto (tgt := 219) hx hb dX3_isSame_215 (by decide) ?_
        refine W.widen (k := 317) (n := 2231) (Nat.le_of_ble_eq_true rfl) (Nat.le_of_ble_eq_true rfl) ?_
        exact W.zret (v := 1) hx hb hRt (rfl) (fun t ht hW => ⟨⟨rfl, by rw [ht]; exact hP⟩, hS.F ht⟩) hS.2.2 dX3_isSame_219
      · refine lv_dconst0 hx hb dX3_isSame_195 ?_
        refine lv_goto (tgt := 210) hx hb dX3_isSame_196 (by decide) ?_
        refine W.eq (g2 := F0 m 210 ls [.double (mnS li tl), .double (mnS li tl)]) (by rw [show mnS li tl = FP.dconst0 from by rw [mnS, if_pos c_27]]) ?_
        refine lv_dcmp hx hb dX3_isSame_210 ?_
        refine c_top (show (Op.cmpValue (FP.dcmp (mnS li tl) (mnS li tl)) CmpOp.l) = 0 from mn_cmp li tl) ?_
        refine lv_if_ne (tgt := 218) hx hb dX3_isSame_211 (by decide) (fun c_29 => absurd (rfl) c_29) (fun _ => ?_)
        refine lv_iconst (v := 1) hx hb dX3_isSame_214 (by decide) ?_
        refine lv_goto (tgt := 219) hx hb dX3_isSame_215 (by decide) ?_
        refine W.widen (k := 317) (n := 2231) (Nat.le_of_ble_eq_true rfl) (Nat.le_of_ble_eq_true rfl) ?_
        exact W.zret (v := 1) hx hb hRt (rfl) (fun t ht hW => ⟨⟨rfl, by rw [ht]; exact hP⟩, hS.F ht⟩) hS.2.2 dX3_isSame_219
    | succ n ih =>
      intro i wv H locs ls hn h3 hwv hl hP hD hS
      refine lv_iload_n hx hb dX3_isSame_60 rfl (lv_at hl 0 rfl) ?_
      refine lv_bipush (v := 31) hx hb dX3_isSame_61 (by decide) ?_
      refine lv_icmp_ge (tgt := 88) hx hb dX3_isSame_63 (by decide) (fun c_30 => absurd c_30 (nI_ge (b := 31) (by omega) (by decide))) (fun _ => ?_)
      refine lv_aload_n hx hb dX3_isSame_66 rfl (lv_at hl 2 rfl) ?_
      refine lv_iload_n hx hb dX3_isSame_67 rfl (lv_at hl 0 rfl) ?_
      have hPc := hP.sub (ws' := [(x, .inr (2, [.ref rg, .ref tr, .ref pn, .int (nI d), .int (nI r), .int ld, .int li, .int tl, .int mo])), (rg, .inr (1, [.ref ro, .ref rl, .int pl])), (ro, .inl (cI, 4, .inl fo)), (rl, .inl (cI, 28, .inl (sh fl)))]) [0, 1, 2, 3] rfl
      have hDc : va_D (fun q : Nat => L0 ≤ q) [(x, .inr (2, [.ref rg, .ref tr, .ref pn, .int (nI d), .int (nI r), .int ld, .int li, .int tl, .int mo])), (rg, .inr (1, [.ref ro, .ref rl, .int pl])), (ro, .inl (cI, 4, .inl fo)), (rl, .inl (cI, 28, .inl (sh fl)))] := (hD.sub (ws' := [(x, .inr (2, [.ref rg, .ref tr, .ref pn, .int (nI d), .int (nI r), .int ld, .int li, .int tl, .int mo])), (rg, .inr (1, [.ref ro, .ref rl, .int pl])), (ro, .inl (cI, 4, .inl fo)), (rl, .inl (cI, 28, .inl (sh fl)))]) [0, 1, 2, 3] (by decide) rfl).weaken (fun _ z9 _ h9 => hAL _ h9)
      have hKc := hK.sub (tys' := [(cI, .int)]) [0] rfl
      refine c_callR (va_runV (As := [.int (nI i)]) (rest := []) ⟨hx, hb, hml, hown, hts⟩ (k_limitAt_ok l D L0 cI x rg tr pn ro rl d r ld li tl mo pl fo fl i ⟨h3, by omega⟩) (cwV 1 hts gX3_isSame_X2_limitAt rfl rfl rfl (by decide +kernel) ⟨Nat.le_of_ble_eq_true rfl, Nat.le_of_ble_eq_true rfl⟩) ⟨cP_blind, va_recv hKc hPc (ci := 2) (q0 := 0) rfl rfl, cP_of hPc hKc hDc (kE_at hE0 hAL hS)⟩ rfl rfl hl.1 rfl (lv_room (Nat.le_of_ble_eq_true rfl)) dX3_isSame_68 ⟨Nat.le_of_ble_eq_true rfl, Nat.le_of_ble_eq_true rfl⟩) ?_
      show W _ _ _ _ _ _ _ _ _ _ _ _ _ _ _ (F0 m 71 ls [.int (fl i)])
      refine lv_aload_n hx hb dX3_isSame_71 rfl (lv_at hl 1 rfl) ?_
      refine va_get (D := D) (ci := 3) (v := .ref sq) (C := RX3) (T := TX3) (N := 9) hx hb hts hiX3 hown hK hP 4 rfl rfl 5 (by decide) (hts (.fieldLink RX3 17 "CraneReachLaw$Sim" "limits" "[I") (by decide +kernel)) (fun _ h9 => h9) rfl dX3_isSame_72 ?_
      refine lv_iload_n hx hb dX3_isSame_75 rfl (lv_at hl 0 rfl) ?_
      refine va_iald hx hb hK hP 6 0 rfl rfl (vp_in_nI (by omega) (by decide)) dX3_isSame_76 ?_
      refine c_top (show (fl (nI i).toNatClampNeg) = fl i from by rw [nI_clamp (by omega)]) ?_
      refine lv_icmp_eq (tgt := 82) hx hb dX3_isSame_77 (by decide) (fun _ => ?_) (fun c_31 => absurd (rfl) c_31)
      refine lv_iinc (v := (nI i) + 1) (lv' := [(3, .int ((nI i) + 1)), (0, .ref sm), (1, .ref x), (2, .int (nI wv))]) hx hb dX3_isSame_82 hl (k := 0) rfl rfl (by decide) rfl (fun ls hl => ?_)
      refine lv_goto (tgt := 60) hx hb dX3_isSame_85 (by decide) ?_
      have hl : lv_has ls 4 [(3, .int (nI (i + 1))), (0, .ref sm), (1, .ref x), (2, .int (nI wv))] := (show (nI i) + 1 = nI (i + 1) from nI_1 i) ▸ hl
      exact ih (i + 1) wv _ _ _ (by omega) (by omega) hwv (lv_sub hl [0, 1, 2, 3] rfl) hP hD hS
  have loop1 : ∀ (n : Nat) (wv : Nat) (H : Heap) (locs : List Loc) (ls : Array Slot), n ≤ 4 → wv = wdN (fun k => strS fo pl k ld d r) (4 - n) → lv_has ls 4 [(3, .int (nI n + (-1))), (2, .int (nI wv)), (0, .ref sm), (1, .ref x)] → va_P D vwCl [(x, .inr (2, [.ref rg, .ref tr, .ref pn, .int (nI d), .int (nI r), .int ld, .int li, .int tl, .int mo])), (rg, .inr (1, [.ref ro, .ref rl, .int pl])), (ro, .inl (cI, 4, .inl fo)), (rl, .inl (cI, 28, .inl (sh fl))), (sm, .inr (3, [.int (nI d), .int (nI r), .int ld, .int pl, .ref so, .ref sq, .int li, .int tl, .int mo])), (so, .inl (cI, 4, .inl fo)), (sq, .inl (cI, 31, .inl fl))] H → va_D A [(x, .inr (2, [.ref rg, .ref tr, .ref pn, .int (nI d), .int (nI r), .int ld, .int li, .int tl, .int mo])), (rg, .inr (1, [.ref ro, .ref rl, .int pl])), (ro, .inl (cI, 4, .inl fo)), (rl, .inl (cI, 28, .inl (sh fl))), (sm, .inr (3, [.int (nI d), .int (nI r), .int ld, .int pl, .ref so, .ref sq, .int li, .int tl, .int mo])), (so, .inl (cI, 4, .inl fo)), (sq, .inl (cI, 31, .inl fl))] → va_S A s.heap H locs → W p l e (headSpec wsX3_isSame ({ frames := 5, cells := 317, slots := 2231, locals := 103 })).room s m ([.ref sm, .ref x]).toArray below meth c H locs (3 * (4 - n)) (24 * (4 - n)) (MQ below (cB (some (.int 1)) (fun H => va_P D vwCl [(x, .inr (2, [.ref rg, .ref tr, .ref pn, .int (nI d), .int (nI r), .int ld, .int li, .int tl, .int mo])), (rg, .inr (1, [.ref ro, .ref rl, .int pl])), (ro, .inl (cI, 4, .inl fo)), (rl, .inl (cI, 28, .inl (sh fl))), (sm, .inr (3, [.int (nI d), .int (nI r), .int ld, .int pl, .ref so, .ref sq, .int li, .int tl, .int mo])), (so, .inl (cI, 4, .inl fo)), (sq, .inl (cI, 31, .inl fl))] H) A) ([.ref sm, .ref x]).toArray s 317 2231 A) (F0 m 4 ls []) := by
    intro n
    induction n with
    | zero =>
      intro wv H locs ls hn hwv hl hP hD hS
      refine lv_iload_n hx hb dX3_isSame_4 rfl (lv_at hl 0 rfl) ?_
      refine lv_if_lt (tgt := 58) hx hb dX3_isSame_5 (by decide) (fun _ => ?_) (fun c_32 => absurd (by decide) c_32)
      refine lv_iconst (v := 3) hx hb dX3_isSame_58 (by decide) ?_
      refine lv_istore_n (lv' := [(3, .int 3), (2, .int (nI wv)), (0, .ref sm), (1, .ref x)]) hx hb dX3_isSame_59 rfl hl (by decide) rfl (fun ls hl => ?_)
      have hl : lv_has ls 4 [(3, .int (nI 3)), (2, .int (nI wv)), (0, .ref sm), (1, .ref x)] := (show 3 = nI 3 from rfl) ▸ hl
      exact loop2 28 3 wv _ _ _ (by omega) (by omega) hwv (lv_sub hl [0, 2, 3, 1] rfl) hP hD hS
    | succ n ih =>
      intro wv H locs ls hn hwv hl hP hD hS
      have hw4 : wv < 4 := by rw [hwv]; exact wdN_lt _
      have hl : lv_has ls 4 [(3, .int (nI n)), (2, .int (nI wv)), (0, .ref sm), (1, .ref x)] := (show nI (n + 1) + (-1) = nI n from pk_m1 n) ▸ hl
      refine lv_iload_n hx hb dX3_isSame_4 rfl (lv_at hl 0 rfl) ?_
      refine lv_if_lt (tgt := 58) hx hb dX3_isSame_5 (by decide) (fun c_33 => absurd c_33 (nI_pos (by omega))) (fun _ => ?_)
      refine lv_aload_n hx hb dX3_isSame_8 rfl (lv_at hl 3 rfl) ?_
      refine lv_iload_n hx hb dX3_isSame_9 rfl (lv_at hl 0 rfl) ?_
      have hPc := hP.sub (ws' := [(x, .inr (2, [.ref rg, .ref tr, .ref pn, .int (nI d), .int (nI r), .int ld, .int li, .int tl, .int mo])), (rg, .inr (1, [.ref ro, .ref rl, .int pl])), (ro, .inl (cI, 4, .inl fo)), (rl, .inl (cI, 28, .inl (sh fl)))]) [0, 1, 2, 3] rfl
      have hDc : va_D (fun q : Nat => L0 ≤ q) [(x, .inr (2, [.ref rg, .ref tr, .ref pn, .int (nI d), .int (nI r), .int ld, .int li, .int tl, .int mo])), (rg, .inr (1, [.ref ro, .ref rl, .int pl])), (ro, .inl (cI, 4, .inl fo)), (rl, .inl (cI, 28, .inl (sh fl)))] := (hD.sub (ws' := [(x, .inr (2, [.ref rg, .ref tr, .ref pn, .int (nI d), .int (nI r), .int ld, .int li, .int tl, .int mo])), (rg, .inr (1, [.ref ro, .ref rl, .int pl])), (ro, .inl (cI, 4, .inl fo)), (rl, .inl (cI, 28, .inl (sh fl)))]) [0, 1, 2, 3] (by decide) rfl).weaken (fun _ z9 _ h9 => hAL _ h9)
      have hKc := hK.sub (tys' := [(cI, .int)]) [0] rfl
      refine c_callR (va_runV (As := [.int (nI n)]) (rest := []) ⟨hx, hb, hml, hown, hts⟩ (k_outrigger_ok l D L0 cI x rg tr pn ro rl d r ld li tl mo pl fo fl n (by omega)) (cwV 1 hts gX3_isSame_X2_outrigger rfl rfl rfl (by decide +kernel) ⟨Nat.le_of_ble_eq_true rfl, Nat.le_of_ble_eq_true rfl⟩) ⟨cP_blind, va_recv hKc hPc (ci := 2) (q0 := 0) rfl rfl, cP_of hPc hKc hDc (kE_at hE0 hAL hS)⟩ rfl rfl hl.1 rfl (lv_room (Nat.le_of_ble_eq_true rfl)) dX3_isSame_10 ⟨by show 3 * (4 - (n + 1)) + 0 ≤ 317; omega, by show 24 * (4 - (n + 1)) + 0 ≤ 2231; omega⟩) ?_
      show W _ _ _ _ _ _ _ _ _ _ _ _ _ _ _ (F0 m 13 ls [.int (fo n)])
      refine lv_aload_n hx hb dX3_isSame_13 rfl (lv_at hl 2 rfl) ?_
      refine va_get (D := D) (ci := 3) (v := .ref so) (C := RX3) (T := TX3) (N := 9) hx hb hts hiX3 hown hK hP 4 rfl rfl 4 (by decide) (hts (.fieldLink RX3 13 "CraneReachLaw$Sim" "out" "[I") (by decide +kernel)) (fun _ h9 => h9) rfl dX3_isSame_14 ?_
      refine lv_iload_n hx hb dX3_isSame_17 rfl (lv_at hl 0 rfl) ?_
      refine va_iald hx hb hK hP 5 0 rfl rfl (vp_in_nI (by omega) (by decide)) dX3_isSame_18 ?_
      refine c_top (show (fo (nI n).toNatClampNeg) = fo n from by rw [nI_clamp (by omega)]) ?_
      refine lv_icmp_ne (tgt := 35) hx hb dX3_isSame_19 (by decide) (fun c_34 => absurd (rfl) c_34) (fun _ => ?_)
      refine lv_aload_n hx hb dX3_isSame_22 rfl (lv_at hl 3 rfl) ?_
      refine lv_iload_n hx hb dX3_isSame_23 rfl (lv_at hl 0 rfl) ?_
      have hPc := hP.sub (ws' := [(x, .inr (2, [.ref rg, .ref tr, .ref pn, .int (nI d), .int (nI r), .int ld, .int li, .int tl, .int mo])), (rg, .inr (1, [.ref ro, .ref rl, .int pl])), (ro, .inl (cI, 4, .inl fo)), (rl, .inl (cI, 28, .inl (sh fl)))]) [0, 1, 2, 3] rfl
      have hDc : va_D (fun q : Nat => L0 ≤ q) [(x, .inr (2, [.ref rg, .ref tr, .ref pn, .int (nI d), .int (nI r), .int ld, .int li, .int tl, .int mo])), (rg, .inr (1, [.ref ro, .ref rl, .int pl])), (ro, .inl (cI, 4, .inl fo)), (rl, .inl (cI, 28, .inl (sh fl)))] := (hD.sub (ws' := [(x, .inr (2, [.ref rg, .ref tr, .ref pn, .int (nI d), .int (nI r), .int ld, .int li, .int tl, .int mo])), (rg, .inr (1, [.ref ro, .ref rl, .int pl])), (ro, .inl (cI, 4, .inl fo)), (rl, .inl (cI, 28, .inl (sh fl)))]) [0, 1, 2, 3] (by decide) rfl).weaken (fun _ z9 _ h9 => hAL _ h9)
      have hKc := hK.sub (tys' := [(cI, .int)]) [0] rfl
      refine c_callR (va_runV (As := [.int (nI n)]) (rest := []) ⟨hx, hb, hml, hown, hts⟩ (k_strainOn_ok l D L0 cI x rg tr pn ro rl d r ld li tl mo pl fo fl n (by omega) hd) (cwV 1 hts gX3_isSame_X2_strainOn rfl rfl rfl (by decide +kernel) ⟨Nat.le_of_ble_eq_true rfl, Nat.le_of_ble_eq_true rfl⟩) ⟨cP_blind, va_recv hKc hPc (ci := 2) (q0 := 0) rfl rfl, cP_of hPc hKc hDc (kE_at hE0 hAL hS)⟩ rfl rfl hl.1 rfl (lv_room (Nat.le_of_ble_eq_true rfl)) dX3_isSame_24 ⟨by show 3 * (4 - (n + 1)) + 0 ≤ 317; omega, by show 24 * (4 - (n + 1)) + 0 ≤ 2231; omega⟩) ?_
      show W _ _ _ _ _ _ _ _ _ _ _ _ _ _ _ (F0 m 27 ls [.int (strS fo pl n ld d r)])
      refine lv_aload_n hx hb dX3_isSame_27 rfl (lv_at hl 2 rfl) ?_
      refine lv_iload_n hx hb dX3_isSame_28 rfl (lv_at hl 0 rfl) ?_
      have hPc := hP.sub (ws' := [(sm, .inr (3, [.int (nI d), .int (nI r), .int ld, .int pl, .ref so, .ref sq, .int li, .int tl, .int mo])), (so, .inl (cI, 4, .inl fo)), (sq, .inl (cI, 31, .inl fl))]) [4, 5, 6] rfl
      have hDc : va_D (fun q : Nat => L0 ≤ q) [(sm, .inr (3, [.int (nI d), .int (nI r), .int ld, .int pl, .ref so, .ref sq, .int li, .int tl, .int mo])), (so, .inl (cI, 4, .inl fo)), (sq, .inl (cI, 31, .inl fl))] := (hD.sub (ws' := [(sm, .inr (3, [.int (nI d), .int (nI r), .int ld, .int pl, .ref so, .ref sq, .int li, .int tl, .int mo])), (so, .inl (cI, 4, .inl fo)), (sq, .inl (cI, 31, .inl fl))]) [4, 5, 6] (by decide) rfl).weaken (fun _ z9 _ h9 => hAL _ h9)
      have hKc := hK.sub (tys' := [(cI, .int)]) [0] rfl
      have hFc := va_free (wc := [(sm, .inr (3, [.int (nI d), .int (nI r), .int ld, .int pl, .ref so, .ref sq, .int li, .int tl, .int mo])), (so, .inl (cI, 4, .inl fo)), (sq, .inl (cI, 31, .inl fl))]) hD hS hA [4, 5, 6] rfl
      refine c_callB (va_runV (As := [.int (nI n)]) (rest := [.int (strS fo pl n ld d r)]) ⟨hx, hb, hml, hown, hts⟩ (s_strain l D L0 cI sm so sq d r ld pl li tl mo fo fl n (by omega) hd _) (cwV 1 hts gX3_isSame_X3_strain rfl rfl rfl (by decide +kernel) ⟨Nat.le_of_ble_eq_true rfl, Nat.le_of_ble_eq_true rfl⟩) ⟨cPz_blind, va_recv hKc hPc (ci := 3) (q0 := 0) rfl rfl, cPz_of hPc hKc hDc (kE_at hE0 hAL hS)⟩ rfl rfl hl.1 rfl (lv_room (Nat.le_of_ble_eq_true rfl)) dX3_isSame_29 ⟨by show 3 * (4 - (n + 1)) + 1 ≤ 317; omega, by show 24 * (4 - (n + 1)) + 8 ≤ 2231; omega⟩) hS (fun z9 _ h9 => hFc z9 h9) hFc (fun H1 locs hB hz1 hk1 hS => ?_)
      obtain ⟨hP, hD⟩ := c_join (ws' := [(x, .inr (2, [.ref rg, .ref tr, .ref pn, .int (nI d), .int (nI r), .int ld, .int li, .int tl, .int mo])), (rg, .inr (1, [.ref ro, .ref rl, .int pl])), (ro, .inl (cI, 4, .inl fo)), (rl, .inl (cI, 28, .inl (sh fl))), (sm, .inr (3, [.int (nI d), .int (nI r), .int ld, .int pl, .ref so, .ref sq, .int li, .int tl, .int mo])), (so, .inl (cI, 4, .inl fo)), (sq, .inl (cI, 31, .inl fl))]) (wr := [(x, .inr (2, [.ref rg, .ref tr, .ref pn, .int (nI d), .int (nI r), .int ld, .int li, .int tl, .int mo])), (rg, .inr (1, [.ref ro, .ref rl, .int pl])), (ro, .inl (cI, 4, .inl fo)), (rl, .inl (cI, 28, .inl (sh fl)))]) (w1 := [(sm, .inr (3, [.int (nI d), .int (nI r), .int ld, .int pl, .ref so, .ref sq, .int li, .int tl, .int mo])), (so, .inl (cI, 4, .inl fo)), (sq, .inl (cI, 31, .inl fl))]) hP hD [4, 5, 6] [0, 1, 2, 3] [0, 1, 2, 3, 4, 5, 6] rfl rfl (by decide) (by decide) (c_area hk1) hB rfl rfl rfl (by decide)
      generalize H1 = H at hP hS ⊢
      show W _ _ _ _ _ _ _ _ _ _ _ _ _ _ _ (F0 m 32 ls [.int (strS fo pl n ld d r), .int (strS fo pl n ld d r)])
      refine lv_icmp_eq (tgt := 37) hx hb dX3_isSame_32 (by decide) (fun _ => ?_) (fun c_35 => absurd (rfl) c_35)
      refine lv_aload_n hx hb dX3_isSame_37 rfl (lv_at hl 2 rfl) ?_
      refine lv_iload_n hx hb dX3_isSame_38 rfl (lv_at hl 0 rfl) ?_
      have hPc := hP.sub (ws' := [(sm, .inr (3, [.int (nI d), .int (nI r), .int ld, .int pl, .ref so, .ref sq, .int li, .int tl, .int mo])), (so, .inl (cI, 4, .inl fo)), (sq, .inl (cI, 31, .inl fl))]) [4, 5, 6] rfl
      have hDc : va_D (fun q : Nat => L0 ≤ q) [(sm, .inr (3, [.int (nI d), .int (nI r), .int ld, .int pl, .ref so, .ref sq, .int li, .int tl, .int mo])), (so, .inl (cI, 4, .inl fo)), (sq, .inl (cI, 31, .inl fl))] := (hD.sub (ws' := [(sm, .inr (3, [.int (nI d), .int (nI r), .int ld, .int pl, .ref so, .ref sq, .int li, .int tl, .int mo])), (so, .inl (cI, 4, .inl fo)), (sq, .inl (cI, 31, .inl fl))]) [4, 5, 6] (by decide) rfl).weaken (fun _ z9 _ h9 => hAL _ h9)
      have hKc := hK.sub (tys' := [(cI, .int)]) [0] rfl
      have hFc := va_free (wc := [(sm, .inr (3, [.int (nI d), .int (nI r), .int ld, .int pl, .ref so, .ref sq, .int li, .int tl, .int mo])), (so, .inl (cI, 4, .inl fo)), (sq, .inl (cI, 31, .inl fl))]) hD hS hA [4, 5, 6] rfl
      refine c_callB (va_runV (As := [.int (nI n)]) (rest := []) ⟨hx, hb, hml, hown, hts⟩ (s_strain l D L0 cI sm so sq d r ld pl li tl mo fo fl n (by omega) hd _) (cwV 1 hts gX3_isSame_X3_strain rfl rfl rfl (by decide +kernel) ⟨Nat.le_of_ble_eq_true rfl, Nat.le_of_ble_eq_true rfl⟩) ⟨cPz_blind, va_recv hKc hPc (ci := 3) (q0 := 0) rfl rfl, cPz_of hPc hKc hDc (kE_at hE0 hAL hS)⟩ rfl rfl hl.1 rfl (lv_room (Nat.le_of_ble_eq_true rfl)) dX3_isSame_39 ⟨by show 3 * (4 - (n + 1)) + 1 + 1 ≤ 317; omega, by show 24 * (4 - (n + 1)) + 8 + 8 ≤ 2231; omega⟩) hS (fun z9 _ h9 => hFc z9 h9) hFc (fun H1 locs hB hz1 hk1 hS => ?_)
      obtain ⟨hP, hD⟩ := c_join (ws' := [(x, .inr (2, [.ref rg, .ref tr, .ref pn, .int (nI d), .int (nI r), .int ld, .int li, .int tl, .int mo])), (rg, .inr (1, [.ref ro, .ref rl, .int pl])), (ro, .inl (cI, 4, .inl fo)), (rl, .inl (cI, 28, .inl (sh fl))), (sm, .inr (3, [.int (nI d), .int (nI r), .int ld, .int pl, .ref so, .ref sq, .int li, .int tl, .int mo])), (so, .inl (cI, 4, .inl fo)), (sq, .inl (cI, 31, .inl fl))]) (wr := [(x, .inr (2, [.ref rg, .ref tr, .ref pn, .int (nI d), .int (nI r), .int ld, .int li, .int tl, .int mo])), (rg, .inr (1, [.ref ro, .ref rl, .int pl])), (ro, .inl (cI, 4, .inl fo)), (rl, .inl (cI, 28, .inl (sh fl)))]) (w1 := [(sm, .inr (3, [.int (nI d), .int (nI r), .int ld, .int pl, .ref so, .ref sq, .int li, .int tl, .int mo])), (so, .inl (cI, 4, .inl fo)), (sq, .inl (cI, 31, .inl fl))]) hP hD [4, 5, 6] [0, 1, 2, 3] [0, 1, 2, 3, 4, 5, 6] rfl rfl (by decide) (by decide) (c_area hk1) hB rfl rfl rfl (by decide)
      generalize H1 = H at hP hS ⊢
      show W _ _ _ _ _ _ _ _ _ _ _ _ _ _ _ (F0 m 42 ls [.int (strS fo pl n ld d r)])
      refine lv_aload_n hx hb dX3_isSame_42 rfl (lv_at hl 2 rfl) ?_
      refine lv_iload_n hx hb dX3_isSame_43 rfl (lv_at hl 1 rfl) ?_
      have hPc := hP.sub (ws' := [(sm, .inr (3, [.int (nI d), .int (nI r), .int ld, .int pl, .ref so, .ref sq, .int li, .int tl, .int mo])), (so, .inl (cI, 4, .inl fo)), (sq, .inl (cI, 31, .inl fl))]) [4, 5, 6] rfl
      have hDc : va_D (fun q : Nat => L0 ≤ q) [(sm, .inr (3, [.int (nI d), .int (nI r), .int ld, .int pl, .ref so, .ref sq, .int li, .int tl, .int mo])), (so, .inl (cI, 4, .inl fo)), (sq, .inl (cI, 31, .inl fl))] := (hD.sub (ws' := [(sm, .inr (3, [.int (nI d), .int (nI r), .int ld, .int pl, .ref so, .ref sq, .int li, .int tl, .int mo])), (so, .inl (cI, 4, .inl fo)), (sq, .inl (cI, 31, .inl fl))]) [4, 5, 6] (by decide) rfl).weaken (fun _ z9 _ h9 => hAL _ h9)
      have hKc := hK.sub (tys' := [(cI, .int)]) [0] rfl
      have hFc := va_free (wc := [(sm, .inr (3, [.int (nI d), .int (nI r), .int ld, .int pl, .ref so, .ref sq, .int li, .int tl, .int mo])), (so, .inl (cI, 4, .inl fo)), (sq, .inl (cI, 31, .inl fl))]) hD hS hA [4, 5, 6] rfl
      refine c_callB (va_runV (As := [.int (nI wv)]) (rest := [.int (strS fo pl n ld d r)]) ⟨hx, hb, hml, hown, hts⟩ (s_strain l D L0 cI sm so sq d r ld pl li tl mo fo fl wv hw4 hd _) (cwV 1 hts gX3_isSame_X3_strain rfl rfl rfl (by decide +kernel) ⟨Nat.le_of_ble_eq_true rfl, Nat.le_of_ble_eq_true rfl⟩) ⟨cPz_blind, va_recv hKc hPc (ci := 3) (q0 := 0) rfl rfl, cPz_of hPc hKc hDc (kE_at hE0 hAL hS)⟩ rfl rfl hl.1 rfl (lv_room (Nat.le_of_ble_eq_true rfl)) dX3_isSame_44 ⟨by show 3 * (4 - (n + 1)) + 1 + 1 + 1 ≤ 317; omega, by show 24 * (4 - (n + 1)) + 8 + 8 + 8 ≤ 2231; omega⟩) hS (fun z9 _ h9 => hFc z9 h9) hFc (fun H1 locs hB hz1 hk1 hS => ?_)
      obtain ⟨hP, hD⟩ := c_join (ws' := [(x, .inr (2, [.ref rg, .ref tr, .ref pn, .int (nI d), .int (nI r), .int ld, .int li, .int tl, .int mo])), (rg, .inr (1, [.ref ro, .ref rl, .int pl])), (ro, .inl (cI, 4, .inl fo)), (rl, .inl (cI, 28, .inl (sh fl))), (sm, .inr (3, [.int (nI d), .int (nI r), .int ld, .int pl, .ref so, .ref sq, .int li, .int tl, .int mo])), (so, .inl (cI, 4, .inl fo)), (sq, .inl (cI, 31, .inl fl))]) (wr := [(x, .inr (2, [.ref rg, .ref tr, .ref pn, .int (nI d), .int (nI r), .int ld, .int li, .int tl, .int mo])), (rg, .inr (1, [.ref ro, .ref rl, .int pl])), (ro, .inl (cI, 4, .inl fo)), (rl, .inl (cI, 28, .inl (sh fl)))]) (w1 := [(sm, .inr (3, [.int (nI d), .int (nI r), .int ld, .int pl, .ref so, .ref sq, .int li, .int tl, .int mo])), (so, .inl (cI, 4, .inl fo)), (sq, .inl (cI, 31, .inl fl))]) hP hD [4, 5, 6] [0, 1, 2, 3] [0, 1, 2, 3, 4, 5, 6] rfl rfl (by decide) (by decide) (c_area hk1) hB rfl rfl rfl (by decide)
      generalize H1 = H at hP hS ⊢
      show W _ _ _ _ _ _ _ _ _ _ _ _ _ _ _ (F0 m 47 ls [.int (strS fo pl wv ld d r), .int (strS fo pl n ld d r)])
      refine lv_icmp_lt (tgt := 52) hx hb dX3_isSame_47 (by decide) (fun c_36 => ?_) (fun c_36 => ?_)
      · refine lv_iinc (v := (nI n) + (-1)) (lv' := [(3, .int ((nI n) + (-1))), (2, .int (nI wv)), (0, .ref sm), (1, .ref x)]) hx hb dX3_isSame_52 hl (k := 0) rfl rfl (by decide) rfl (fun ls hl => ?_)
        refine lv_goto (tgt := 4) hx hb dX3_isSame_55 (by decide) ?_
        refine W.widen (k := 3 * (4 - n)) (n := 24 * (4 - n)) (by omega) (by omega) ?_
        exact ih wv _ _ _ (by omega) (wdN_keep (st := (fun k => strS fo pl k ld d r)) hn hwv c_36) (lv_sub hl [0, 1, 2, 3] rfl) hP hD hS
      · refine lv_iload_n hx hb dX3_isSame_50 rfl (lv_at hl 0 rfl) ?_
        refine lv_istore_n (lv' := [(2, .int (nI n)), (3, .int (nI n)), (0, .ref sm), (1, .ref x)]) hx hb dX3_isSame_51 rfl hl (by decide) rfl (fun ls hl => ?_)
        refine lv_iinc (v := (nI n) + (-1)) (lv' := [(3, .int ((nI n) + (-1))), (2, .int (nI n)), (0, .ref sm), (1, .ref x)]) hx hb dX3_isSame_52 hl (k := 1) rfl rfl (by decide) rfl (fun ls hl => ?_)
        refine lv_goto (tgt := 4) hx hb dX3_isSame_55 (by decide) ?_
        refine W.widen (k := 3 * (4 - n)) (n := 24 * (4 - n)) (by omega) (by omega) ?_
        exact ih n _ _ _ (by omega) (wdN_take (st := (fun k => strS fo pl k ld d r)) hn hwv c_36) (lv_sub hl [0, 1, 2, 3] rfl) hP hD hS
  refine lv_iconst (v := 3) hx hb dX3_isSame_0 (by decide) ?_
  refine lv_istore_n (lv' := [(2, .int 3), (0, .ref sm), (1, .ref x)]) hx hb dX3_isSame_1 rfl hl (by decide) rfl (fun ls hl => ?_)
  refine lv_iconst (v := 3) hx hb dX3_isSame_2 (by decide) ?_
  refine lv_istore_n (lv' := [(3, .int 3), (2, .int 3), (0, .ref sm), (1, .ref x)]) hx hb dX3_isSame_3 rfl hl (by decide) rfl (fun ls hl => ?_)
  have hl : lv_has ls 4 [(3, .int (nI 4 + (-1))), (2, .int 3), (0, .ref sm), (1, .ref x)] := (show 3 = nI 4 + (-1) from by decide) ▸ hl
  have hl : lv_has ls 4 [(3, .int (nI 4 + (-1))), (2, .int (nI 3)), (0, .ref sm), (1, .ref x)] := (show 3 = nI 3 from rfl) ▸ hl
  exact loop1 4 3 _ _ _ (by omega) rfl (lv_sub hl [0, 1, 2, 3] rfl) hP hD hS
