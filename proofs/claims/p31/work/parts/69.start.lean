set_option maxHeartbeats 8000000 in
set_option maxRecDepth 100000 in
/-- the law, from its entry -/
theorem whole_start {p : Program} {e : Env} {s : State} {m : MethodId} {below : List Frame} {meth : Method} {c : Code} (l : Launch) (hflags : l.flags = flags0) {b L : Nat} {xs : Nat → Int32} (hL : L ≤ 260) (C0a : lw_At p s m meth c b L xs) : W p l e room_1 s m #[Value.ref b] below meth c s.heap [] 0 0 (lw_Z below #[Value.ref b] s) (entryFrame m ([Value.ref b] : List Value).toArray 21) := by
  obtain ⟨hx, hb, hr, hml, hown, hts0, hX, hbl, hlocks, hgv⟩ := C0a
  have hL31 : L < 2 ^ 31 := Nat.lt_of_le_of_lt hL (by decide)
  have hs := flat_of_before _ hgv
  have hE0 := c_ground hts0 hs
  obtain ⟨c0, iS0, hKn0⟩ := u_known (C := RX0) (T := TX0) (N := 3) (n := 3) hts0 inX0 (hts0 (.instantiable RX0 3) (by decide +kernel))
  obtain ⟨c1, iS1, hKn1⟩ := u_known (C := RX1) (T := TX1) (N := 3) (n := 3) hts0 inX1 (hts0 (.instantiable RX1 3) (by decide +kernel))
  obtain ⟨c2, iS2, hKn2⟩ := u_known (C := RX2) (T := TX2) (N := 9) (n := 9) hts0 inX2 (hts0 (.instantiable RX2 9) (by decide +kernel))
  obtain ⟨c3, iS3, hKn3⟩ := u_known (C := RX3) (T := TX3) (N := 9) (n := 9) hts0 inX3 (hts0 (.instantiable RX3 9) (by decide +kernel))
  obtain ⟨D, hKc⟩ : ∃ D : va_G, ∀ (k : Nat) (q : vw_C), vwCl[k]? = some q → u_Kn s q.1 q.2.1 q.2.2 (D.1 k) (D.2 k) := by
    refine ⟨(fun k => if k = 0 then c0 else if k = 1 then c1 else if k = 2 then c2 else c3, fun k => if k = 0 then iS0 else if k = 1 then iS1 else if k = 2 then iS2 else iS3), ?_⟩
    intro k q hq
    match k, hq with
    | 0, hq => cases hq; exact hKn0
    | 1, hq => cases hq; exact hKn1
    | 2, hq => cases hq; exact hKn2
    | 3, hq => cases hq; exact hKn3
    | k + 4, hq => simp [vwCl] at hq
  obtain ⟨cI, hcI, hnI⟩ := c_arrc (hts0 (.arrayClass .int) (by decide +kernel))
  have hKs : va_K D vwCl [(cI, .int)] s := by
    refine ⟨hKc, fun k q hq => ?_⟩
    match k, hq with
    | 0, hq => cases hq; exact ⟨hcI, hnI⟩
    | k + 1, hq => simp at hq
  have hfl : l.stackTraces = false := by show (!l.flags.contains Jvm.noTraceFlag) = false; rw [hflags]; decide +kernel
  obtain ⟨L0, hL1⟩ : ∃ z9 : Nat, s.heap.size = z9 := ⟨_, rfl⟩
  rw [hL1] at hE0
  have hd0 := Drawn.sameBut.refl s.drawn lw_cs
  refine W.base ?_
  have hts1 := dr_words hts0 s.drawn
  obtain ⟨A, hA2⟩ : ∃ A : Nat → Prop, ∀ z9 : Nat, A z9 ↔ L0 ≤ z9 := ⟨fun z9 => L0 ≤ z9, fun _ => Iff.rfl⟩
  have hK : va_K D vwCl [(cI, .int)] (s.setDrawn s.drawn) := va_K.moved (u := s) (U := s.setDrawn s.drawn) (Vm.Alike.refl s.vm) hKs
  have hE0 : kE L0 (s.setDrawn s.drawn) (s.setDrawn s.drawn).heap := kE_same (s := s) (U := s.setDrawn s.drawn) hE0 rfl
  have hX : va_X b L xs (s.setDrawn s.drawn) (s.setDrawn s.drawn).heap := va_X.moved (u := s) (U := s.setDrawn s.drawn) (Vm.Alike.refl s.vm) hX
  have hAO : va_AOA .int (s.setDrawn s.drawn) := hts1 (.arrayOver (.array .int)) (by decide +kernel)
  have C1 : plCtx p l (s.setDrawn s.drawn) m #[Value.ref b] c b L xs L0 D cI A := ⟨hx, hb, hml, hown, fun w h => hts1 w (wsL_law_in w h), hX, hbl, hL1, hK, hE0, hfl, hAO, hA2⟩
  obtain ⟨-, -, -, hown, hts, hX, hbl, hL0, hK, hE0, -, -, -⟩ := id C1
  have hiX2 := inlX2
  have hiX3 := inlX3
  have hAL : ∀ z9 : Nat, A z9 → L0 ≤ z9 := fun z9 h9 => (hA2 z9).mp h9
  have hA : ∀ z9 : Nat, (s.setDrawn s.drawn).heap.size ≤ z9 → A z9 := fun z9 h9 => (hA2 z9).mpr (hL0 ▸ h9)
  have hS : va_S A (s.setDrawn s.drawn).heap (s.setDrawn s.drawn).heap [] := va_S.rf
  have hP : va_P D vwCl [] (s.setDrawn s.drawn).heap := fun k q h => by simp at h
  have hD : va_D A [] := ⟨fun i j p q h => by simp at h, fun k q h => by simp at h⟩
  have hl := lv_entry ([.ref b]) (n := 21) (Nat.le_of_ble_eq_true rfl)
  rw [lg_entry_eq]
  generalize (lg_sl ([.ref b]) ++ List.replicate (21 - (lg_sl ([.ref b])).length) Slot.unset).toArray = ls at hl ⊢
  have hl : lv_has ls 21 [(0, .ref b)] := hl
  refine va_new (D := D) (ci := 2) (fs := [.null, .null, .null, .int 0, .int 0, .int 0, .int 0, .int 0, .int 0]) (C := RX2) (T := TX2) (N := 9) hx hb hts hiX2 tyX2 tyX2_ok hown (hts (.classLink RL 30 RX2) (by decide +kernel)) (hts (.instantiable RX2 9) (by decide +kernel)) (hts (.initialized RX2) (by decide +kernel)) hK hP hD hS hA rfl (fun j hj => by rcases (show j = 0 ∨ j = 1 ∨ j = 2 ∨ j = 3 ∨ j = 4 ∨ j = 5 ∨ j = 6 ∨ j = 7 ∨ j = 8 by omega) with rfl | rfl | rfl | rfl | rfl | rfl | rfl | rfl | rfl <;> rfl) (Nat.le_of_ble_eq_true rfl) (Nat.le_of_ble_eq_true rfl) dL_law_0 (fun x H hP hD hS => ?_)
  have hP : va_P D vwCl [(x, .inr (2, [.null, .null, .null, .int 0, .int 0, .int 0, .int 0, .int 0, .int 0]))] H := hP
  have hD : va_D A [(x, .inr (2, [.null, .null, .null, .int 0, .int 0, .int 0, .int 0, .int 0, .int 0]))] := hD
  refine lv_dup hx hb dL_law_3 rfl ?_
  have hPc := hP.sub (ws' := [(x, .inr (2, [.null, .null, .null, .int 0, .int 0, .int 0, .int 0, .int 0, .int 0]))]) [0] rfl
  have hDc : va_D (fun q : Nat => L0 ≤ q) [(x, .inr (2, [.null, .null, .null, .int 0, .int 0, .int 0, .int 0, .int 0, .int 0]))] := (hD.sub (ws' := [(x, .inr (2, [.null, .null, .null, .int 0, .int 0, .int 0, .int 0, .int 0, .int 0]))]) [0] (by decide) rfl).weaken (fun _ z9 _ h9 => hAL _ h9)
  have hFc := va_free (wc := [(x, .inr (2, [.null, .null, .null, .int 0, .int 0, .int 0, .int 0, .int 0, .int 0]))]) hD hS hA [0] rfl
  refine c_callB (va_runI (As := []) (rest := [.ref x]) ⟨hx, hb, hml, hown, hts⟩ (k_X_init l D L0 cI x H.size) (cwI 0 hts gL_law_X2_init rfl rfl rfl (hts (.initialized RX2) (by decide +kernel)) (hts (.methodLink RL 86 yX2_init) (by decide +kernel)) (hts (.instanceMethod yX2_init) (by decide +kernel)) rfl (by decide +kernel) ⟨Nat.le_of_ble_eq_true rfl, Nat.le_of_ble_eq_true rfl⟩) ⟨cPz_blind, cPz_of hPc hK hDc (kE_at hE0 hAL hS)⟩ rfl rfl hl.1 rfl (lv_room (Nat.le_of_ble_eq_true rfl)) dL_law_4 ⟨Nat.le_of_ble_eq_true rfl, Nat.le_of_ble_eq_true rfl⟩) hS (fun z9 _ h9 => hFc z9 h9) hFc (fun H1 locs hB hz1 hk1 hS => ?_)
  obtain ⟨rg, ro, rl, tr, t0, t1, pn, pm, pf, hB⟩ := hB
  obtain ⟨hP, hD⟩ := va_join (wr := []) (w1 := [(x, .inr (2, [.ref rg, .ref tr, .ref pn, .int (nI 0), .int (nI 3), .int 0, .int 0, .int 0, .int 0])), (rg, .inr (1, [.ref ro, .ref rl, .int 0])), (ro, .inl (cI, 4, .inl (fun _ => 0))), (rl, .inl (cI, 28, .inl (sh lim0))), (tr, .inr (1, [.ref t0, .ref t1, .int 0])), (t0, .inl (cI, 4, .inl (fun _ => 0))), (t1, .inl (cI, 28, .inl (sh lim0))), (pn, .inr (0, [.ref pm, .ref pf, .int 0])), (pm, .inl (cI, 224, .inl (fun _ => 0))), (pf, .inl (cI, 224, .inl (fun _ => 0)))]) hP hD [0] [] rfl rfl (by decide) (by decide) hk1 hFc hB.1 hB.2
  generalize H1 = H at hP hS ⊢
  have hP : va_P D vwCl [(x, .inr (2, [.ref rg, .ref tr, .ref pn, .int (nI 0), .int (nI 3), .int 0, .int 0, .int 0, .int 0])), (rg, .inr (1, [.ref ro, .ref rl, .int 0])), (ro, .inl (cI, 4, .inl (fun _ => 0))), (rl, .inl (cI, 28, .inl (sh lim0))), (tr, .inr (1, [.ref t0, .ref t1, .int 0])), (t0, .inl (cI, 4, .inl (fun _ => 0))), (t1, .inl (cI, 28, .inl (sh lim0))), (pn, .inr (0, [.ref pm, .ref pf, .int 0])), (pm, .inl (cI, 224, .inl (fun _ => 0))), (pf, .inl (cI, 224, .inl (fun _ => 0)))] H := hP
  have hD : va_D A [(x, .inr (2, [.ref rg, .ref tr, .ref pn, .int (nI 0), .int (nI 3), .int 0, .int 0, .int 0, .int 0])), (rg, .inr (1, [.ref ro, .ref rl, .int 0])), (ro, .inl (cI, 4, .inl (fun _ => 0))), (rl, .inl (cI, 28, .inl (sh lim0))), (tr, .inr (1, [.ref t0, .ref t1, .int 0])), (t0, .inl (cI, 4, .inl (fun _ => 0))), (t1, .inl (cI, 28, .inl (sh lim0))), (pn, .inr (0, [.ref pm, .ref pf, .int 0])), (pm, .inl (cI, 224, .inl (fun _ => 0))), (pf, .inl (cI, 224, .inl (fun _ => 0)))] := hD
  show W _ _ _ _ _ _ _ _ _ _ _ _ _ _ _ (F0 m 7 ls [.ref x])
  refine lv_astore_n (lv' := [(1, .ref x), (0, .ref b)]) hx hb dL_law_7 rfl hl (by decide) rfl (fun ls hl => ?_)
  refine va_new (D := D) (ci := 3) (fs := [.int 0, .int 0, .int 0, .int 0, .null, .null, .int 0, .int 0, .int 0]) (C := RX3) (T := TX3) (N := 9) hx hb hts hiX3 tyX3 tyX3_ok hown (hts (.classLink RL 16 RX3) (by decide +kernel)) (hts (.instantiable RX3 9) (by decide +kernel)) (hts (.initialized RX3) (by decide +kernel)) hK hP hD hS hA rfl (fun j hj => by rcases (show j = 0 ∨ j = 1 ∨ j = 2 ∨ j = 3 ∨ j = 4 ∨ j = 5 ∨ j = 6 ∨ j = 7 ∨ j = 8 by omega) with rfl | rfl | rfl | rfl | rfl | rfl | rfl | rfl | rfl <;> rfl) (Nat.le_of_ble_eq_true rfl) (Nat.le_of_ble_eq_true rfl) dL_law_8 (fun sm H hP hD hS => ?_)
  have hP : va_P D vwCl [(x, .inr (2, [.ref rg, .ref tr, .ref pn, .int (nI 0), .int (nI 3), .int 0, .int 0, .int 0, .int 0])), (rg, .inr (1, [.ref ro, .ref rl, .int 0])), (ro, .inl (cI, 4, .inl (fun _ => 0))), (rl, .inl (cI, 28, .inl (sh lim0))), (tr, .inr (1, [.ref t0, .ref t1, .int 0])), (t0, .inl (cI, 4, .inl (fun _ => 0))), (t1, .inl (cI, 28, .inl (sh lim0))), (pn, .inr (0, [.ref pm, .ref pf, .int 0])), (pm, .inl (cI, 224, .inl (fun _ => 0))), (pf, .inl (cI, 224, .inl (fun _ => 0))), (sm, .inr (3, [.int 0, .int 0, .int 0, .int 0, .null, .null, .int 0, .int 0, .int 0]))] H := hP
  have hD : va_D A [(x, .inr (2, [.ref rg, .ref tr, .ref pn, .int (nI 0), .int (nI 3), .int 0, .int 0, .int 0, .int 0])), (rg, .inr (1, [.ref ro, .ref rl, .int 0])), (ro, .inl (cI, 4, .inl (fun _ => 0))), (rl, .inl (cI, 28, .inl (sh lim0))), (tr, .inr (1, [.ref t0, .ref t1, .int 0])), (t0, .inl (cI, 4, .inl (fun _ => 0))), (t1, .inl (cI, 28, .inl (sh lim0))), (pn, .inr (0, [.ref pm, .ref pf, .int 0])), (pm, .inl (cI, 224, .inl (fun _ => 0))), (pf, .inl (cI, 224, .inl (fun _ => 0))), (sm, .inr (3, [.int 0, .int 0, .int 0, .int 0, .null, .null, .int 0, .int 0, .int 0]))] := hD
  refine lv_dup hx hb dL_law_11 rfl ?_
  have hPc := hP.sub (ws' := [(sm, .inr (3, [.int 0, .int 0, .int 0, .int 0, .null, .null, .int 0, .int 0, .int 0]))]) [10] rfl
  have hDc : va_D (fun q : Nat => L0 ≤ q) [(sm, .inr (3, [.int 0, .int 0, .int 0, .int 0, .null, .null, .int 0, .int 0, .int 0]))] := (hD.sub (ws' := [(sm, .inr (3, [.int 0, .int 0, .int 0, .int 0, .null, .null, .int 0, .int 0, .int 0]))]) [10] (by decide) rfl).weaken (fun _ z9 _ h9 => hAL _ h9)
  have hFc := va_free (wc := [(sm, .inr (3, [.int 0, .int 0, .int 0, .int 0, .null, .null, .int 0, .int 0, .int 0]))]) hD hS hA [10] rfl
  refine c_callB (va_runI (As := []) (rest := [.ref sm]) ⟨hx, hb, hml, hown, hts⟩ (s_init l D L0 cI sm H.size) (cwI 0 hts gL_law_X3_init rfl rfl rfl (hts (.initialized RX3) (by decide +kernel)) (hts (.methodLink RL 87 yX3_init) (by decide +kernel)) (hts (.instanceMethod yX3_init) (by decide +kernel)) rfl (by decide +kernel) ⟨Nat.le_of_ble_eq_true rfl, Nat.le_of_ble_eq_true rfl⟩) ⟨cPz_blind, cPz_of hPc hK hDc (kE_at hE0 hAL hS)⟩ rfl rfl hl.1 rfl (lv_room (Nat.le_of_ble_eq_true rfl)) dL_law_12 ⟨Nat.le_of_ble_eq_true rfl, Nat.le_of_ble_eq_true rfl⟩) hS (fun z9 _ h9 => hFc z9 h9) hFc (fun H1 locs hB hz1 hk1 hS => ?_)
  obtain ⟨so, sq, hB⟩ := hB
  obtain ⟨hP, hD⟩ := va_join (wr := [(x, .inr (2, [.ref rg, .ref tr, .ref pn, .int (nI 0), .int (nI 3), .int 0, .int 0, .int 0, .int 0])), (rg, .inr (1, [.ref ro, .ref rl, .int 0])), (ro, .inl (cI, 4, .inl (fun _ => 0))), (rl, .inl (cI, 28, .inl (sh lim0))), (tr, .inr (1, [.ref t0, .ref t1, .int 0])), (t0, .inl (cI, 4, .inl (fun _ => 0))), (t1, .inl (cI, 28, .inl (sh lim0))), (pn, .inr (0, [.ref pm, .ref pf, .int 0])), (pm, .inl (cI, 224, .inl (fun _ => 0))), (pf, .inl (cI, 224, .inl (fun _ => 0)))]) (w1 := [(sm, .inr (3, [.int 0, .int (nI 3), .int 0, .int 0, .ref so, .ref sq, .int 0, .int 0, .int 0])), (so, .inl (cI, 4, .inl (fun _ => 0))), (sq, .inl (cI, 31, .inl lim0))]) hP hD [10] [0, 1, 2, 3, 4, 5, 6, 7, 8, 9] rfl rfl (by decide) (by decide) hk1 hFc hB.1 hB.2
  generalize H1 = H at hP hS ⊢
  have hP : va_P D vwCl [(x, .inr (2, [.ref rg, .ref tr, .ref pn, .int (nI 0), .int (nI 3), .int 0, .int 0, .int 0, .int 0])), (rg, .inr (1, [.ref ro, .ref rl, .int 0])), (ro, .inl (cI, 4, .inl (fun _ => 0))), (rl, .inl (cI, 28, .inl (sh lim0))), (tr, .inr (1, [.ref t0, .ref t1, .int 0])), (t0, .inl (cI, 4, .inl (fun _ => 0))), (t1, .inl (cI, 28, .inl (sh lim0))), (pn, .inr (0, [.ref pm, .ref pf, .int 0])), (pm, .inl (cI, 224, .inl (fun _ => 0))), (pf, .inl (cI, 224, .inl (fun _ => 0))), (sm, .inr (3, [.int 0, .int (nI 3), .int 0, .int 0, .ref so, .ref sq, .int 0, .int 0, .int 0])), (so, .inl (cI, 4, .inl (fun _ => 0))), (sq, .inl (cI, 31, .inl lim0))] H := hP
  have hD : va_D A [(x, .inr (2, [.ref rg, .ref tr, .ref pn, .int (nI 0), .int (nI 3), .int 0, .int 0, .int 0, .int 0])), (rg, .inr (1, [.ref ro, .ref rl, .int 0])), (ro, .inl (cI, 4, .inl (fun _ => 0))), (rl, .inl (cI, 28, .inl (sh lim0))), (tr, .inr (1, [.ref t0, .ref t1, .int 0])), (t0, .inl (cI, 4, .inl (fun _ => 0))), (t1, .inl (cI, 28, .inl (sh lim0))), (pn, .inr (0, [.ref pm, .ref pf, .int 0])), (pm, .inl (cI, 224, .inl (fun _ => 0))), (pf, .inl (cI, 224, .inl (fun _ => 0))), (sm, .inr (3, [.int 0, .int (nI 3), .int 0, .int 0, .ref so, .ref sq, .int 0, .int 0, .int 0])), (so, .inl (cI, 4, .inl (fun _ => 0))), (sq, .inl (cI, 31, .inl lim0))] := hD
  show W _ _ _ _ _ _ _ _ _ _ _ _ _ _ _ (F0 m 15 ls [.ref sm])
  refine lv_astore_n (lv' := [(2, .ref sm), (1, .ref x), (0, .ref b)]) hx hb dL_law_15 rfl hl (by decide) rfl (fun ls hl => ?_)
  refine lv_iconst (v := 0) hx hb dL_law_16 (by decide) ?_
  refine lv_istore_n (lv' := [(3, .int 0), (2, .ref sm), (1, .ref x), (0, .ref b)]) hx hb dL_law_17 rfl hl (by decide) rfl (fun ls hl => ?_)
  have hP : va_P D vwCl [(x, .inr (2, [.ref rg, .ref tr, .ref pn, .int (nI 0), .int (nI 3), .int 0, .int 0, .int 0, .int 0])), (rg, .inr (1, [.ref ro, .ref rl, .int 0])), (ro, .inl (cI, 4, .inl (fun _ => 0))), (rl, .inl (cI, 28, .inl (sh lim0))), (tr, .inr (1, [.ref t0, .ref t1, .int 0])), (t0, .inl (cI, 4, .inl (fun _ => 0))), (t1, .inl (cI, 28, .inl (sh lim0))), (pn, .inr (0, [.ref pm, .ref pf, .int 0])), (pm, .inl (cI, 224, .inl (fun _ => 0))), (pf, .inl (cI, 224, .inl (fun _ => 0))), (sm, .inr (3, [.int (nI 0), .int (nI 3), .int 0, .int 0, .ref so, .ref sq, .int 0, .int 0, .int 0])), (so, .inl (cI, 4, .inl (fun _ => 0))), (sq, .inl (cI, 31, .inl lim0))] H := hP
  have hD : va_D A [(x, .inr (2, [.ref rg, .ref tr, .ref pn, .int (nI 0), .int (nI 3), .int 0, .int 0, .int 0, .int 0])), (rg, .inr (1, [.ref ro, .ref rl, .int 0])), (ro, .inl (cI, 4, .inl (fun _ => 0))), (rl, .inl (cI, 28, .inl (sh lim0))), (tr, .inr (1, [.ref t0, .ref t1, .int 0])), (t0, .inl (cI, 4, .inl (fun _ => 0))), (t1, .inl (cI, 28, .inl (sh lim0))), (pn, .inr (0, [.ref pm, .ref pf, .int 0])), (pm, .inl (cI, 224, .inl (fun _ => 0))), (pf, .inl (cI, 224, .inl (fun _ => 0))), (sm, .inr (3, [.int (nI 0), .int (nI 3), .int 0, .int 0, .ref so, .ref sq, .int 0, .int 0, .int 0])), (so, .inl (cI, 4, .inl (fun _ => 0))), (sq, .inl (cI, 31, .inl lim0))] := hD
  refine va_forget (fun z9 hz => by rw [hL0]; exact (hA2 _).mp (hS.2.2 z9 hz)) ?_
  exact law_loop C1 hL31 (fun H ls => lw_ret hd0 hx hb hr hlocks dL_law_896) 10 0 (0 + 1 + 9 + 1 + 2) (0 + 9 + 521 + 9 + 35) (by decide) (by decide) (by decide) 0 3 0 0 0 0 0 (fun _ => 0) lim0 0 (fun _ => 0) (sh lim0) 0 (fun _ => 0) (fun _ => 0) H ls lp_0 hP hD ⟨hS.1, hS.2.1, fun _ hz => absurd hz List.not_mem_nil⟩ (lv_sub hl [3, 2, 1, 0] rfl)
set_option maxHeartbeats 4000000 in
theorem lw_walk (l : Launch) (hflags : l.flags = flags0) (b : Addr) (xs : List Int32) : MetFree l x (headSpec (Jvm.Cond.code x code maxLocals ret :: tables_1) room_1) (lw_P b xs) (fun _ _ _ _ _ => True) lw_Q := by
  refine MetFree.of_bodyS (code := code) (maxLocals := maxLocals) (ret := ret) (by decide) ?_ ?_
  · intro args s m h hn
    obtain ⟨meth, c, h1, h2, h3, h4, h5, h6, -, -⟩ := Cond.code_spec hn (atoms_spec (ws := Jvm.Cond.code x code maxLocals ret :: tables_1) h _ List.mem_cons_self)
    exact ⟨meth, c, h1, h2, h3, h4, h5, h6⟩
  · intro p e s m args below meth c s₁ B hml0 hP _
    obtain ⟨rfl, hx, hbd, hgv⟩ := hP
    obtain ⟨scr, harrAt, hlist, hof, hsmall⟩ := hx
    obtain ⟨hcb, hkn, -, -⟩ := State.arrayAt?_spec harrAt
    have hown : s.vm.findClass R_law = some m.cls := findClass_of_methodNamed B.named
    have hts0 : ∀ c ∈ (Jvm.Cond.code x code maxLocals ret :: tables_1), c.before #[Value.ref b] s = true := atoms_spec (ws := Jvm.Cond.code x code maxLocals ret :: tables_1) B.pre
    have hts : ∀ w ∈ lw_tbl, w.before #[Value.ref b] s = true := k2_hts_sels lw_privs (fun w hw => hts0 w (List.mem_cons_of_mem _ hw)) lw_privs_ok
    have hml : c.maxLocals = 21 := B.maxLocals_eq (hts0 _ List.mem_cons_self)
    have X₀ : Stand p l e room_1 s m #[Value.ref b] below meth c s₁ [] 0 0 := Stand.of_body B
    have hh0 : s₁.heap = s.heap := by rw [B.state]; rfl
    have hsz : scr.slots.size = xs.length := by rw [← Array.length_toList, hlist, List.length_map]
    have hval : ∀ j : Nat, j < xs.length → scr.slots[j]? = some (.int (xs.getD j 0)) := fun j hj => by
      rw [← Array.getElem?_toList, hlist]
      simp [hj]
    have hbl : b < s.heap.size := (Array.getElem?_eq_some_iff.mp hcb).1
    have hX : va_X b xs.length (fun j => xs.getD j 0) s s.heap := ⟨scr, hcb, hof, hkn, hsz, hval⟩
    have K : W p l e room_1 s m #[Value.ref b] below meth c s₁.heap [] 0 0 (lw_Z below #[Value.ref b] s) (entryFrame m ([Value.ref b] : List Value).toArray 21) := by
      rw [hh0]
      exact whole_start l hflags hbd ⟨B.exec, B.bytes, B.returns, hml, hown, hts, hX, hbl, B.notSynchronized, hgv⟩
    obtain ⟨t, a1, o, b1, b2, b3⟩ := K s₁ rfl X₀
    exact ⟨t, o, a1, b1, b2, b3⟩
theorem lw_pre_spec {args : Array Value} {s : State} (h : (Jvm.Cond.and given_1 narrow_1).before args s = true) (hr : rest_1_c.before args s = true) : ∃ (b : Addr) (xs : List Int32), lw_P b xs args s := by
  have hs := flat_of_before _ h
  have hq := flat_of_before _ hr
  have hc : (Cond.count 1).before args s = true := hs _ (by decide +kernel)
  have harr : (Cond.arrayOf (.arg 0) .int).before args s = true := hs _ (by decide +kernel)
  have hle : (Cond.le (.length (.arg 0)) (.int 260)).before args s = true := hs _ (by decide +kernel)
  have hlen : (Cond.isInt (.length (.arg 0))).before args s = true := hq _ (by decide +kernel)
  have hall : (Cond.all (.arg 0) (.isInt (.elem (.arg 0) (.index 0)))).before args s = true := hq _ (by decide +kernel)
  obtain ⟨b, xs, hb, hx⟩ := State.ints_of_pre rfl harr hlen hall
  have hsm : xs.length < 2 ^ 31 := hx.choose_spec.2.2.2
  have hev : (Term.length (.arg 0)).eval args s none [] s = some (.int xs.length.toInt32) := hx.length_eval hb
  have hv := Cond.le_ints hev (show (Term.int 260).eval args s none [] s = some (.int 260) from rfl)
  have hd : xs.length.toInt32 ≤ 260 := by
    simpa [Cond.before, Cond.holds, hv] using hle
  have hN : xs.length ≤ 260 := (Int32.ofNat_le_ofNat hsm (by decide)).mp (show Int32.ofNat xs.length ≤ Int32.ofNat 260 from hd)
  exact ⟨b, xs, Cond.one_arg hc (show args[0]? = some (.ref b) from hb), hx, hN, h⟩
theorem lw_comes (l : Launch) (hflags : l.flags = flags0) : Comes l x (Jvm.Cond.code x code maxLocals ret :: tables_1) room_1 (fun tb e args s => Calls_1 tb e args s ∧ rest_1 tb e args s ∧ Pre_1 tb e args s)
    (fun _ _ args s o t => lw_Q args s o t) := by
  intro p e ha hc hk s m args below hf hfit hheap happ hpre
  obtain ⟨b, xs, hP⟩ := lw_pre_spec hpre.2.2 hpre.2.1
  obtain ⟨k, o, h1, h2, h3, hQ⟩ := lw_walk l hflags b xs p e ha hc hk s m args below hf ((Spec.applies_iff_loose hf).mp happ).1 hP trivial
  exact ⟨k, o, h1, h2, h3, hQ⟩
theorem lw_frame {s t : State} {o : Outcome} {args : Array Value} (h : State.butDraws s t lw_cs (fun t1 => Framed s o t1 [] 600130 7301080)) :
    State.butDraws s t [Jvm.Choice.named "NaN.bits"] (fun t1 => Framed s o t1 (fieldLocs frame_1_writes args s ++ arrayLocs frame_1_arrays args s ++ staticLocs frame_1_statics s) 600130 7301080) := h
theorem lw_limb (L : Cond) (hL : ∀ (args : Array Value) (s t : State), L.after args s (.returned (some (.int 1))) t = true) :
    ArmFor flags0 classFile x code maxLocals ret World_1 tables_1 room_1 Calls_1 rest_1 Pre_1
      (fun tb e a s o t => postC L tb e a s o t ∧ State.butDraws s t [Jvm.Choice.named "NaN.bits"] (fun t1 => Framed s o t1 (fieldLocs frame_1_writes a s ++ arrayLocs frame_1_arrays a s ++ staticLocs frame_1_statics s) 600130 7301080)) := by
  intro l hflags _ _ p e ha hc hk s m args below hf hfit hheap happ hpre
  obtain ⟨k, o, h1, h2, h3, rfl, hF⟩ := lw_comes l hflags p e ha hc hk s m args below hf hfit hheap happ hpre
  exact ⟨k, _, h1, h2, h3, hL args s _, lw_frame hF⟩
theorem i_vc : Claimed_1_1 ∧ Claimed_1_2 := ⟨lw_limb limb_1_1 (fun args s t => by simp [limb_1_1, Cond.after, Cond.holds, Cond.value]), lw_limb limb_1_2 (fun args s t => Cond.after_iff.mpr (by
  first | (rw [show limb_1_2 = Cond.eq .result (.int 1) from rfl, Cond.eq_ints (x := 1) (y := 1) rfl rfl]; simp; done) | (simp [limb_1_2, Cond.value, Term.eval]; done)))⟩

