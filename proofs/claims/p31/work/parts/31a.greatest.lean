set_option maxHeartbeats 4000000 in
set_option maxRecDepth 100000 in
/-- greatest() -/
theorem s_greatest (l : Launch) (D : va_G) (L0 : Nat) (cI : ClassId) (sm so sq d r : Nat) (ld pl li tl mo : Int32) (fo fl : Nat → Int32) (hd : d < 8) (hr : 3 ≤ r ∧ r ≤ 30) (sz : Nat) : Met l yX3_greatest wsX3_greatest ({ frames := 4, cells := 305, slots := 2135, locals := 81 }) (cPz L0 D [(cI, .int)] [(sm, .inr (3, [.int (nI d), .int (nI r), .int ld, .int pl, .ref so, .ref sq, .int li, .int tl, .int mo])), (so, .inl (cI, 4, .inl fo)), (sq, .inl (cI, 31, .inl fl))] [.ref sm] sz) (cB (some (.int (gbN (fun k => safS fo fl pl (nI k) d r) 61))) (fun H => va_P D vwCl [(sm, .inr (3, [.int (nI d), .int (nI r), .int ld, .int pl, .ref so, .ref sq, .int li, .int tl, .int mo])), (so, .inl (cI, 4, .inl fo)), (sq, .inl (cI, 31, .inl fl))] H) (va_A [(sm, .inr (3, [.int (nI d), .int (nI r), .int ld, .int pl, .ref so, .ref sq, .int li, .int tl, .int mo])), (so, .inl (cI, 4, .inl fo)), (sq, .inl (cI, 31, .inl fl))] sz)) 305 2135 (va_A [(sm, .inr (3, [.int (nI d), .int (nI r), .int ld, .int pl, .ref so, .ref sq, .int li, .int tl, .int mo])), (so, .inl (cI, 4, .inl fo)), (sq, .inl (cI, 31, .inl fl))] sz) := by
  refine Met.ofW (cc := cX3_greatest) (maxL := 3) (ret := (some .int)) (by decide) rfl ?_
  intro p e s m args below meth c s₁ B hml hv
  obtain ⟨⟨rfl, hP, hK, hD0, hE0⟩, rfl⟩ := hv
  have hx := B.exec
  have hb := B.bytes
  have hRt := B.returns
  have hts := atoms_spec (ws := wsX3_greatest) B.pre
  have hown : s.vm.findClass RX3 = some m.cls := findClass_of_methodNamed B.named
  have hlocks := B.notSynchronized
  have hAL : ∀ z9 : Nat, va_A [(sm, .inr (3, [.int (nI d), .int (nI r), .int ld, .int pl, .ref so, .ref sq, .int li, .int tl, .int mo])), (so, .inl (cI, 4, .inl fo)), (sq, .inl (cI, 31, .inl fl))] s.heap.size z9 → L0 ≤ z9 := fun z9 h9 => h9.elim (fun ⟨k9, e9, h8⟩ => hD0.2 k9 (z9, e9) h8) (fun h8 => Nat.le_trans hE0.1 h8)
  have hD : va_D (va_A [(sm, .inr (3, [.int (nI d), .int (nI r), .int ld, .int pl, .ref so, .ref sq, .int li, .int tl, .int mo])), (so, .inl (cI, 4, .inl fo)), (sq, .inl (cI, 31, .inl fl))] s.heap.size) [(sm, .inr (3, [.int (nI d), .int (nI r), .int ld, .int pl, .ref so, .ref sq, .int li, .int tl, .int mo])), (so, .inl (cI, 4, .inl fo)), (sq, .inl (cI, 31, .inl fl))] := hD0.self
  have hA : ∀ z9 : Nat, s.heap.size ≤ z9 → va_A [(sm, .inr (3, [.int (nI d), .int (nI r), .int ld, .int pl, .ref so, .ref sq, .int li, .int tl, .int mo])), (so, .inl (cI, 4, .inl fo)), (sq, .inl (cI, 31, .inl fl))] s.heap.size z9 := fun z9 h9 => Or.inr h9
  generalize hAe : va_A [(sm, .inr (3, [.int (nI d), .int (nI r), .int ld, .int pl, .ref so, .ref sq, .int li, .int tl, .int mo])), (so, .inl (cI, 4, .inl fo)), (sq, .inl (cI, 31, .inl fl))] s.heap.size = A at hD hAL hA ⊢
  have hS : va_S A s.heap s.heap [] := va_S.rf
  have hiX3 : ∀ w ∈ u_ws RX3 TX3 9, w ∈ wsX3_greatest := by decide +kernel
  have hl := lv_entry ([.ref sm]) (n := 3) (Nat.le_of_ble_eq_true rfl)
  rw [lg_entry_eq]
  generalize (lg_sl ([.ref sm]) ++ List.replicate (3 - (lg_sl ([.ref sm])).length) Slot.unset).toArray = ls at hl ⊢
  have hl : lv_has ls 3 [(0, .ref sm)] := hl
  have loop : ∀ (n : Nat) (i : Nat) (H : Heap) (locs : List Loc) (ls : Array Slot), i + n = 61 → lv_has ls 3 [(2, .int (nI i)), (1, .int (gbN (fun k => safS fo fl pl (nI k) d r) i)), (0, .ref sm)] → va_P D vwCl [(sm, .inr (3, [.int (nI d), .int (nI r), .int ld, .int pl, .ref so, .ref sq, .int li, .int tl, .int mo])), (so, .inl (cI, 4, .inl fo)), (sq, .inl (cI, 31, .inl fl))] H → va_D A [(sm, .inr (3, [.int (nI d), .int (nI r), .int ld, .int pl, .ref so, .ref sq, .int li, .int tl, .int mo])), (so, .inl (cI, 4, .inl fo)), (sq, .inl (cI, 31, .inl fl))] → va_S A s.heap H locs → W p l e (headSpec wsX3_greatest ({ frames := 4, cells := 305, slots := 2135, locals := 81 })).room s m ([.ref sm]).toArray below meth c H locs (5 * i) (35 * i) (MQ below (cB (some (.int (gbN (fun k => safS fo fl pl (nI k) d r) 61))) (fun H => va_P D vwCl [(sm, .inr (3, [.int (nI d), .int (nI r), .int ld, .int pl, .ref so, .ref sq, .int li, .int tl, .int mo])), (so, .inl (cI, 4, .inl fo)), (sq, .inl (cI, 31, .inl fl))] H) A) ([.ref sm]).toArray s 305 2135 A) (F0 m 4 ls []) := by
    intro n
    induction n with
    | zero =>
      intro i H locs ls hn hl hP hD hS
      have hi : i = 61 := by omega
      rw [hi] at hl
      rw [hi]
      refine lv_iload_n hx hb dX3_greatest_4 rfl (lv_at hl 0 rfl) ?_
      refine lv_bipush (v := 61) hx hb dX3_greatest_5 (by decide) ?_
      refine lv_icmp_ge (tgt := 34) hx hb dX3_greatest_7 (by decide) (fun _ => ?_) (fun c_1 => absurd (by decide) c_1)
      refine lv_iload_n hx hb dX3_greatest_34 rfl (lv_at hl 1 rfl) ?_
      refine W.widen (k := 305) (n := 2135) (Nat.le_of_ble_eq_true rfl) (Nat.le_of_ble_eq_true rfl) ?_
      exact W.iret (v := (gbN (fun k => safS fo fl pl (nI k) d r) 61)) hx hb hRt (fun t ht hW => ⟨⟨rfl, by rw [ht]; exact hP⟩, hS.F ht⟩) hS.2.2 dX3_greatest_35
    | succ n ih =>
      intro i H locs ls hn hl hP hD hS
      refine lv_iload_n hx hb dX3_greatest_4 rfl (lv_at hl 0 rfl) ?_
      refine lv_bipush (v := 61) hx hb dX3_greatest_5 (by decide) ?_
      refine lv_icmp_ge (tgt := 34) hx hb dX3_greatest_7 (by decide) (fun c_2 => absurd c_2 (nI_ge (b := 61) (by omega) (by decide))) (fun _ => ?_)
      refine lv_aload_n hx hb dX3_greatest_10 rfl (lv_at hl 2 rfl) ?_
      refine lv_iload_n hx hb dX3_greatest_11 rfl (lv_at hl 0 rfl) ?_
      refine lv_aload_n hx hb dX3_greatest_12 rfl (lv_at hl 2 rfl) ?_
      refine va_get (D := D) (ci := 3) (v := .int (nI d)) (C := RX3) (T := TX3) (N := 9) hx hb hts hiX3 hown hK hP 0 rfl rfl 0 (by decide) (hts (.fieldLink RX3 21 "CraneReachLaw$Sim" "direction" "I") (by decide +kernel)) (fun _ h9 => h9) rfl dX3_greatest_13 ?_
      refine lv_aload_n hx hb dX3_greatest_16 rfl (lv_at hl 2 rfl) ?_
      refine va_get (D := D) (ci := 3) (v := .int (nI r)) (C := RX3) (T := TX3) (N := 9) hx hb hts hiX3 hown hK hP 0 rfl rfl 1 (by decide) (hts (.fieldLink RX3 7 "CraneReachLaw$Sim" "reach" "I") (by decide +kernel)) (fun _ h9 => h9) rfl dX3_greatest_17 ?_
      have hPc := hP.sub (ws' := [(sm, .inr (3, [.int (nI d), .int (nI r), .int ld, .int pl, .ref so, .ref sq, .int li, .int tl, .int mo])), (so, .inl (cI, 4, .inl fo)), (sq, .inl (cI, 31, .inl fl))]) [0, 1, 2] rfl
      have hDc : va_D (fun q : Nat => L0 ≤ q) [(sm, .inr (3, [.int (nI d), .int (nI r), .int ld, .int pl, .ref so, .ref sq, .int li, .int tl, .int mo])), (so, .inl (cI, 4, .inl fo)), (sq, .inl (cI, 31, .inl fl))] := (hD.sub (ws' := [(sm, .inr (3, [.int (nI d), .int (nI r), .int ld, .int pl, .ref so, .ref sq, .int li, .int tl, .int mo])), (so, .inl (cI, 4, .inl fo)), (sq, .inl (cI, 31, .inl fl))]) [0, 1, 2] (by decide) rfl).weaken (fun _ z9 _ h9 => hAL _ h9)
      have hKc := hK.sub (tys' := [(cI, .int)]) [0] rfl
      have hFc := va_free (wc := [(sm, .inr (3, [.int (nI d), .int (nI r), .int ld, .int pl, .ref so, .ref sq, .int li, .int tl, .int mo])), (so, .inl (cI, 4, .inl fo)), (sq, .inl (cI, 31, .inl fl))]) hD hS hA [0, 1, 2] rfl
      refine c_callB (va_runV (As := [.int (nI i), .int (nI d), .int (nI r)]) (rest := []) ⟨hx, hb, hml, hown, hts⟩ (s_isSafe l D L0 cI sm so sq d r ld pl li tl mo fo fl (nI i) d r hd hr _) (cwV 3 hts gX3_greatest_X3_isSafe_ rfl rfl rfl (by decide +kernel) ⟨Nat.le_of_ble_eq_true rfl, Nat.le_of_ble_eq_true rfl⟩) ⟨cPz_blind, va_recv hKc hPc (ci := 3) (q0 := 0) rfl rfl, cPz_of hPc hKc hDc (kE_at hE0 hAL hS)⟩ rfl rfl hl.1 rfl (lv_room (Nat.le_of_ble_eq_true rfl)) dX3_greatest_20 ⟨by show 5 * i + 5 ≤ 305; omega, by show 35 * i + 35 ≤ 2135; omega⟩) hS (fun z9 _ h9 => hFc z9 h9) hFc (fun H1 locs hB hz1 hk1 hS => ?_)
      obtain ⟨hP, hD⟩ := c_join (ws' := [(sm, .inr (3, [.int (nI d), .int (nI r), .int ld, .int pl, .ref so, .ref sq, .int li, .int tl, .int mo])), (so, .inl (cI, 4, .inl fo)), (sq, .inl (cI, 31, .inl fl))]) (wr := []) (w1 := [(sm, .inr (3, [.int (nI d), .int (nI r), .int ld, .int pl, .ref so, .ref sq, .int li, .int tl, .int mo])), (so, .inl (cI, 4, .inl fo)), (sq, .inl (cI, 31, .inl fl))]) hP hD [0, 1, 2] [] [0, 1, 2] rfl rfl (by decide) (by decide) (c_area hk1) hB rfl rfl rfl (by decide)
      generalize H1 = H at hP hS ⊢
      show W _ _ _ _ _ _ _ _ _ _ _ _ _ _ _ (F0 m 23 ls [.int (bI (safS fo fl pl (nI i) d r))])
      obtain ⟨b_3, hbv_4⟩ : ∃ z9 : Bool, z9 = safS fo fl pl (nI i) d r := ⟨_, rfl⟩
      refine c_top (show (bI (safS fo fl pl (nI i) d r)) = bI b_3 from by rw [hbv_4]) ?_
      refine lv_if_eq (tgt := 28) hx hb dX3_greatest_23 (by decide) (fun c_5 => ?_) (fun c_5 => ?_)
      · have hs : safS fo fl pl (nI i) d r = false := by rw [← hbv_4]; cases b_3 with | false => rfl | true => exact absurd c_5 (by decide)
        refine lv_iinc (v := (nI i) + 1) (lv' := [(2, .int ((nI i) + 1)), (1, .int (gbN (fun k => safS fo fl pl (nI k) d r) i)), (0, .ref sm)]) hx hb dX3_greatest_28 hl (k := 0) rfl rfl (by decide) rfl (fun ls hl => ?_)
        refine lv_goto (tgt := 4) hx hb dX3_greatest_31 (by decide) ?_
        have hl : lv_has ls 3 [(2, .int (nI (i + 1))), (1, .int (gbN (fun k => safS fo fl pl (nI k) d r) i)), (0, .ref sm)] := (show (nI i) + 1 = nI (i + 1) from nI_1 i) ▸ hl
        have hl : lv_has ls 3 [(2, .int (nI (i + 1))), (1, .int (gbN (fun k => safS fo fl pl (nI k) d r) (i + 1))), (0, .ref sm)] := (show gbN (fun k => safS fo fl pl (nI k) d r) i = gbN (fun k => safS fo fl pl (nI k) d r) (i + 1) from by rw [gbN, if_neg (by rw [hs]; decide)]) ▸ hl
        refine W.widen (k := 5 * (i + 1)) (n := 35 * (i + 1)) (by omega) (by omega) ?_
        exact ih (i + 1) _ _ _ (by omega) (lv_sub hl [0, 1, 2] rfl) hP hD hS
      · have hs : safS fo fl pl (nI i) d r = true := by rw [← hbv_4]; cases b_3 with | true => rfl | false => exact absurd rfl c_5
        refine lv_iload_n hx hb dX3_greatest_26 rfl (lv_at hl 0 rfl) ?_
        refine lv_istore_n (lv' := [(1, .int (nI i)), (2, .int (nI i)), (0, .ref sm)]) hx hb dX3_greatest_27 rfl hl (by decide) rfl (fun ls hl => ?_)
        refine lv_iinc (v := (nI i) + 1) (lv' := [(2, .int ((nI i) + 1)), (1, .int (nI i)), (0, .ref sm)]) hx hb dX3_greatest_28 hl (k := 1) rfl rfl (by decide) rfl (fun ls hl => ?_)
        refine lv_goto (tgt := 4) hx hb dX3_greatest_31 (by decide) ?_
        have hl : lv_has ls 3 [(2, .int (nI (i + 1))), (1, .int (nI i)), (0, .ref sm)] := (show (nI i) + 1 = nI (i + 1) from nI_1 i) ▸ hl
        have hl : lv_has ls 3 [(2, .int (nI (i + 1))), (1, .int (gbN (fun k => safS fo fl pl (nI k) d r) (i + 1))), (0, .ref sm)] := (show nI i = gbN (fun k => safS fo fl pl (nI k) d r) (i + 1) from by rw [gbN, if_pos hs]) ▸ hl
        refine W.widen (k := 5 * (i + 1)) (n := 35 * (i + 1)) (by omega) (by omega) ?_
        exact ih (i + 1) _ _ _ (by omega) (lv_sub hl [0, 1, 2] rfl) hP hD hS
  refine lv_iconst (v := -1) hx hb dX3_greatest_0 (by decide) ?_
  refine lv_istore_n (lv' := [(1, .int (-1)), (0, .ref sm)]) hx hb dX3_greatest_1 rfl hl (by decide) rfl (fun ls hl => ?_)
  refine lv_iconst (v := 0) hx hb dX3_greatest_2 (by decide) ?_
  refine lv_istore_n (lv' := [(2, .int 0), (1, .int (-1)), (0, .ref sm)]) hx hb dX3_greatest_3 rfl hl (by decide) rfl (fun ls hl => ?_)
  have hl : lv_has ls 3 [(2, .int (nI 0)), (1, .int (-1)), (0, .ref sm)] := (show 0 = nI 0 from rfl) ▸ hl
  have hl : lv_has ls 3 [(2, .int (nI 0)), (1, .int (gbN (fun k => safS fo fl pl (nI k) d r) 0)), (0, .ref sm)] := (show (-1) = gbN (fun k => safS fo fl pl (nI k) d r) 0 from rfl) ▸ hl
  exact loop 61 0 _ _ _ (by omega) (lv_sub hl [0, 1, 2] rfl) hP hD hS
