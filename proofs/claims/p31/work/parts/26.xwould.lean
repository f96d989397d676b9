set_option maxHeartbeats 4000000 in
set_option maxRecDepth 100000 in
/-- X2_requireLoad, where it passes -/
theorem k_requireLoad_ok (l : Launch) (D : va_G) (L0 : Nat) (v : Int32) (hv : 0 ≤ v ∧ v ≤ 60) : Met l yX2_requireLoad wsX2_requireLoad ({ frames := 1, cells := 0, slots := 0, locals := 22 }) (cP L0 D [] [] [.int v]) (cR none) 0 0 (fun _ => False) := by
  refine Met.ofW (cc := cX2_requireLoad) (maxL := 1) (ret := none) (by decide) rfl ?_
  intro p e s m args below meth c s₁ B hml hv
  obtain ⟨rfl, hP, hK, hD0, hE0⟩ := hv
  have hx := B.exec
  have hb := B.bytes
  have hRt := B.returns
  have hts := atoms_spec (ws := wsX2_requireLoad) B.pre
  have hown : s.vm.findClass RX2 = some m.cls := findClass_of_methodNamed B.named
  have hlocks := B.notSynchronized
  have hAL : ∀ z9 : Nat, (fun _ : Nat => False) z9 → L0 ≤ z9 := fun z9 h9 => False.elim h9
  generalize hAe : (fun _ : Nat => False) = A at hAL ⊢
  have hS : va_S A s.heap s.heap [] := va_S.rf
  have hl := lv_entry ([.int v]) (n := 1) (Nat.le_of_ble_eq_true rfl)
  rw [lg_entry_eq]
  generalize (lg_sl ([.int v]) ++ List.replicate (1 - (lg_sl ([.int v])).length) Slot.unset).toArray = ls at hl ⊢
  have hl : lv_has ls 1 [(0, .int v)] := hl
  refine lv_iload_n hx hb dX2_requireLoad_0 rfl (lv_at hl 0 rfl) ?_
  refine lv_iconst (v := 0) hx hb dX2_requireLoad_1 (by decide) ?_
  refine lv_bipush (v := 60) hx hb dX2_requireLoad_2 (by decide) ?_
  have hPc := hP.sub (ws' := []) [] rfl
  have hDc := hD0.sub (ws' := []) [] (by decide) rfl
  have hKc := hK.sub (tys' := []) [] rfl
  refine c_callR (va_runS (As := [.int v, .int 0, .int 60]) (rest := []) ⟨hx, hb, hml, hown, hts⟩ (k_isWithin l D L0 v 0 60) (va_cwS 3 hts gX2_requireLoad_X2_isWithin rfl rfl rfl (by decide +kernel) ⟨Nat.le_of_ble_eq_true rfl, Nat.le_of_ble_eq_true rfl⟩) ⟨cP_blind, cP_of hPc hKc hDc (kE_at hE0 hAL hS)⟩ rfl rfl hl.1 rfl (lv_room (Nat.le_of_ble_eq_true rfl)) dX2_requireLoad_4 ⟨Nat.le_of_ble_eq_true rfl, Nat.le_of_ble_eq_true rfl⟩) ?_
  show W _ _ _ _ _ _ _ _ _ _ _ _ _ _ _ (F0 m 7 ls [.int (bI (decide (0 ≤ v) && decide (v ≤ 60)))])
  refine c_top (show bI (decide (0 ≤ v) && decide (v ≤ 60)) = 1 from isW_yes hv.1 hv.2) ?_
  refine lv_if_ne (tgt := 20) hx hb dX2_requireLoad_7 (by decide) (fun _ => ?_) (fun c_46 => absurd c_46 (by decide))
  exact W.vret hx hb hRt (fun t ht hW => ⟨rfl, ht⟩) hS.2.2 dX2_requireLoad_20
set_option maxHeartbeats 4000000 in
set_option maxRecDepth 100000 in
/-- X2_requireReach, where it passes -/
theorem k_requireReach_ok (l : Launch) (D : va_G) (L0 : Nat) (v : Int32) (hv : 3 ≤ v ∧ v ≤ 30) : Met l yX2_requireReach wsX2_requireReach ({ frames := 2, cells := 0, slots := 0, locals := 42 }) (cP L0 D [] [] [.int v]) (cR none) 0 0 (fun _ => False) := by
  refine Met.ofW (cc := cX2_requireReach) (maxL := 1) (ret := none) (by decide) rfl ?_
  intro p e s m args below meth c s₁ B hml hv
  obtain ⟨rfl, hP, hK, hD0, hE0⟩ := hv
  have hx := B.exec
  have hb := B.bytes
  have hRt := B.returns
  have hts := atoms_spec (ws := wsX2_requireReach) B.pre
  have hown : s.vm.findClass RX2 = some m.cls := findClass_of_methodNamed B.named
  have hlocks := B.notSynchronized
  have hAL : ∀ z9 : Nat, (fun _ : Nat => False) z9 → L0 ≤ z9 := fun z9 h9 => False.elim h9
  generalize hAe : (fun _ : Nat => False) = A at hAL ⊢
  have hS : va_S A s.heap s.heap [] := va_S.rf
  have hl := lv_entry ([.int v]) (n := 1) (Nat.le_of_ble_eq_true rfl)
  rw [lg_entry_eq]
  generalize (lg_sl ([.int v]) ++ List.replicate (1 - (lg_sl ([.int v])).length) Slot.unset).toArray = ls at hl ⊢
  have hl : lv_has ls 1 [(0, .int v)] := hl
  refine lv_iload_n hx hb dX2_requireReach_0 rfl (lv_at hl 0 rfl) ?_
  have hPc := hP.sub (ws' := []) [] rfl
  have hDc := hD0.sub (ws' := []) [] (by decide) rfl
  have hKc := hK.sub (tys' := []) [] rfl
  refine c_callR (va_runS (As := [.int v]) (rest := []) ⟨hx, hb, hml, hown, hts⟩ (k_isReach l D L0 v) (va_cwS 1 hts gX2_requireReach_X2_isReach rfl rfl rfl (by decide +kernel) ⟨Nat.le_of_ble_eq_true rfl, Nat.le_of_ble_eq_true rfl⟩) ⟨cP_blind, cP_of hPc hKc hDc (kE_at hE0 hAL hS)⟩ rfl rfl hl.1 rfl (lv_room (Nat.le_of_ble_eq_true rfl)) dX2_requireReach_1 ⟨Nat.le_of_ble_eq_true rfl, Nat.le_of_ble_eq_true rfl⟩) ?_
  show W _ _ _ _ _ _ _ _ _ _ _ _ _ _ _ (F0 m 4 ls [.int (bI (decide (3 ≤ v) && decide (v ≤ 30)))])
  refine c_top (show bI (decide (3 ≤ v) && decide (v ≤ 30)) = 1 from isW_yes hv.1 hv.2) ?_
  refine lv_if_ne (tgt := 17) hx hb dX2_requireReach_4 (by decide) (fun _ => ?_) (fun c_47 => absurd c_47 (by decide))
  exact W.vret hx hb hRt (fun t ht hW => ⟨rfl, ht⟩) hS.2.2 dX2_requireReach_17
set_option maxHeartbeats 4000000 in
set_option maxRecDepth 100000 in
/-- safeDirections(load, reach), where the tests pass -/
theorem k_safeDirections_ok (l : Launch) (D : va_G) (L0 : Nat) (cI : ClassId) (x rg tr pn ro rl d r : Nat) (ld li tl mo pl : Int32) (fo fl : Nat → Int32) (u : Int32) (kz : Nat) (hu : 0 ≤ u ∧ u ≤ 60) (hkz : 3 ≤ kz ∧ kz ≤ 30) : Met l yX2_safeDirections wsX2_safeDirections ({ frames := 3, cells := 0, slots := 0, locals := 71 }) (cP L0 D [(cI, .int)] [(x, .inr (2, [.ref rg, .ref tr, .ref pn, .int (nI d), .int (nI r), .int ld, .int li, .int tl, .int mo])), (rg, .inr (1, [.ref ro, .ref rl, .int pl])), (ro, .inl (cI, 4, .inl fo)), (rl, .inl (cI, 28, .inl (sh fl)))] [.ref x, .int u, .int (nI kz)]) (cR (some (.int (nI (fb_ct (fun k => safS fo fl pl u k kz) 8))))) 0 0 (fun _ => False) := by
  refine Met.ofW (cc := cX2_safeDirections) (maxL := 5) (ret := (some .int)) (by decide) rfl ?_
  intro p e s m args below meth c s₁ B hml hv
  obtain ⟨rfl, hP, hK, hD0, hE0⟩ := hv
  have hx := B.exec
  have hb := B.bytes
  have hRt := B.returns
  have hts := atoms_spec (ws := wsX2_safeDirections) B.pre
  have hown : s.vm.findClass RX2 = some m.cls := findClass_of_methodNamed B.named
  have hlocks := B.notSynchronized
  have hAL : ∀ z9 : Nat, (fun _ : Nat => False) z9 → L0 ≤ z9 := fun z9 h9 => False.elim h9
  generalize hAe : (fun _ : Nat => False) = A at hAL ⊢
  have hS : va_S A s.heap s.heap [] := va_S.rf
  have hiX2 : ∀ w ∈ u_ws RX2 TX2 9, w ∈ wsX2_safeDirections := by decide +kernel
  have hl := lv_entry ([.ref x, .int u, .int (nI kz)]) (n := 5) (Nat.le_of_ble_eq_true rfl)
  rw [lg_entry_eq]
  generalize (lg_sl ([.ref x, .int u, .int (nI kz)]) ++ List.replicate (5 - (lg_sl ([.ref x, .int u, .int (nI kz)])).length) Slot.unset).toArray = ls at hl ⊢
  have hl : lv_has ls 5 [(0, .ref x), (1, .int u), (2, .int (nI kz))] := hl
  have loop : ∀ (n : Nat) (i : Nat) (ls : Array Slot), i + n = 8 → lv_has ls 5 [(4, .int (nI i)), (3, .int (nI (fb_ct (fun k => safS fo fl pl u k kz) i))), (0, .ref x), (1, .int u), (2, .int (nI kz))] → W p l e (headSpec wsX2_safeDirections ({ frames := 3, cells := 0, slots := 0, locals := 71 })).room s m ([.ref x, .int u, .int (nI kz)]).toArray below meth c s.heap [] 0 0 (MQ below (cR (some (.int (nI (fb_ct (fun k => safS fo fl pl u k kz) 8))))) ([.ref x, .int u, .int (nI kz)]).toArray s 0 0 A) (F0 m 13 ls []) := by
    intro n
    induction n with
    | zero =>
      intro i ls hn hl
      have hi : i = 8 := by omega
      rw [hi] at hl
      refine lv_iload hx hb dX2_safeDirections_13 (lv_at hl 0 rfl) ?_
      refine lv_bipush (v := 8) hx hb dX2_safeDirections_15 (by decide) ?_
      refine lv_icmp_ge (tgt := 43) hx hb dX2_safeDirections_17 (by decide) (fun _ => ?_) (fun c_48 => absurd (by decide) c_48)
      refine lv_iload_n hx hb dX2_safeDirections_43 rfl (lv_at hl 1 rfl) ?_
      exact W.iret (v := (nI (fb_ct (fun k => safS fo fl pl u k kz) 8))) hx hb hRt (fun t ht hW => ⟨rfl, ht⟩) hS.2.2 dX2_safeDirections_44
    | succ n ih =>
      intro i ls hn hl
      refine lv_iload hx hb dX2_safeDirections_13 (lv_at hl 0 rfl) ?_
      refine lv_bipush (v := 8) hx hb dX2_safeDirections_15 (by decide) ?_
      refine lv_icmp_ge (tgt := 43) hx hb dX2_safeDirections_17 (by decide) (fun c_49 => absurd c_49 (nI_ge (b := 8) (by omega) (by decide))) (fun _ => ?_)
      refine lv_aload_n hx hb dX2_safeDirections_20 rfl (lv_at hl 2 rfl) ?_
      refine va_get (D := D) (ci := 2) (v := .ref rg) (C := RX2) (T := TX2) (N := 9) hx hb hts hiX2 hown hK hP 0 rfl rfl 0 (by decide) (hts (.fieldLink RX2 12 "CraneReach" "rig" "LCraneReach$Rig;") (by decide +kernel)) (fun _ h9 => h9) rfl dX2_safeDirections_21 ?_
      refine lv_iload_n hx hb dX2_safeDirections_24 rfl (lv_at hl 3 rfl) ?_
      refine lv_iload hx hb dX2_safeDirections_25 (lv_at hl 0 rfl) ?_
      refine lv_iload_n hx hb dX2_safeDirections_27 rfl (lv_at hl 4 rfl) ?_
      have hPc := hP.sub (ws' := [(rg, .inr (1, [.ref ro, .ref rl, .int pl])), (ro, .inl (cI, 4, .inl fo)), (rl, .inl (cI, 28, .inl (sh fl)))]) [1, 2, 3] rfl
      have hDc := hD0.sub (ws' := [(rg, .inr (1, [.ref ro, .ref rl, .int pl])), (ro, .inl (cI, 4, .inl fo)), (rl, .inl (cI, 28, .inl (sh fl)))]) [1, 2, 3] (by decide) rfl
      have hKc := hK.sub (tys' := [(cI, .int)]) [0] rfl
      refine c_callR (va_runV (As := [.int u, .int (nI i), .int (nI kz)]) (rest := []) ⟨hx, hb, hml, hown, hts⟩ (k_isSafe l D L0 cI rg ro rl pl fo fl i kz u (by omega) hkz) (cwV 3 hts gX2_safeDirections_X1_isSafe rfl rfl rfl (by decide +kernel) ⟨Nat.le_of_ble_eq_true rfl, Nat.le_of_ble_eq_true rfl⟩) ⟨cP_blind, va_recv hKc hPc (ci := 1) (q0 := 0) rfl rfl, cP_of hPc hKc hDc (kE_at hE0 hAL hS)⟩ rfl rfl hl.1 rfl (lv_room (Nat.le_of_ble_eq_true rfl)) dX2_safeDirections_28 ⟨Nat.le_of_ble_eq_true rfl, Nat.le_of_ble_eq_true rfl⟩) ?_
      show W _ _ _ _ _ _ _ _ _ _ _ _ _ _ _ (F0 m 31 ls [.int (bI (safS fo fl pl u i kz))])
      obtain ⟨b_50, hbv_51⟩ : ∃ z : Bool, z = safS fo fl pl u i kz := ⟨_, rfl⟩
      refine c_top (show bI (safS fo fl pl u i kz) = bI b_50 from by rw [hbv_51]) ?_
      refine lv_if_eq (tgt := 37) hx hb dX2_safeDirections_31 (by decide) (fun c_52 => ?_) (fun c_52 => ?_)
      · have hs : safS fo fl pl u i kz = false := by rw [← hbv_51]; cases b_50 with | false => rfl | true => exact absurd c_52 (by decide)
        refine lv_iinc (v := (nI i) + 1) (lv' := [(4, .int ((nI i) + 1)), (3, .int (nI (fb_ct (fun k => safS fo fl pl u k kz) i))), (0, .ref x), (1, .int u), (2, .int (nI kz))]) hx hb dX2_safeDirections_37 hl (k := 0) rfl rfl (by decide) rfl (fun ls hl => ?_)
        refine lv_goto (tgt := 13) hx hb dX2_safeDirections_40 (by decide) ?_
        have hl : lv_has ls 5 [(4, .int (nI (i + 1))), (3, .int (nI (fb_ct (fun k => safS fo fl pl u k kz) i))), (0, .ref x), (1, .int u), (2, .int (nI kz))] := (show (nI i) + 1 = nI (i + 1) from nI_1 i) ▸ hl
        have hl : lv_has ls 5 [(4, .int (nI (i + 1))), (3, .int (nI (fb_ct (fun k => safS fo fl pl u k kz) (i + 1)))), (0, .ref x), (1, .int u), (2, .int (nI kz))] := (show nI (fb_ct (fun k => safS fo fl pl u k kz) i) = nI (fb_ct (fun k => safS fo fl pl u k kz) (i + 1)) from by rw [fb_ct_succ, hs]; rfl) ▸ hl
        exact ih (i + 1) _ (by omega) (lv_sub hl [0, 1, 2, 3, 4] rfl)
      · have hs : safS fo fl pl u i kz = true := by rw [← hbv_51]; cases b_50 with | true => rfl | false => exact absurd rfl c_52
        refine lv_iinc (v := (nI (fb_ct (fun k => safS fo fl pl u k kz) i)) + 1) (lv' := [(3, .int ((nI (fb_ct (fun k => safS fo fl pl u k kz) i)) + 1)), (4, .int (nI i)), (0, .ref x), (1, .int u), (2, .int (nI kz))]) hx hb dX2_safeDirections_34 hl (k := 1) rfl rfl (by decide) rfl (fun ls hl => ?_)
        refine lv_iinc (v := (nI i) + 1) (lv' := [(4, .int ((nI i) + 1)), (3, .int ((nI (fb_ct (fun k => safS fo fl pl u k kz) i)) + 1)), (0, .ref x), (1, .int u), (2, .int (nI kz))]) hx hb dX2_safeDirections_37 hl (k := 1) rfl rfl (by decide) rfl (fun ls hl => ?_)
        refine lv_goto (tgt := 13) hx hb dX2_safeDirections_40 (by decide) ?_
        have hl : lv_has ls 5 [(4, .int (nI (i + 1))), (3, .int ((nI (fb_ct (fun k => safS fo fl pl u k kz) i)) + 1)), (0, .ref x), (1, .int u), (2, .int (nI kz))] := (show (nI i) + 1 = nI (i + 1) from nI_1 i) ▸ hl
        have hl : lv_has ls 5 [(4, .int (nI (i + 1))), (3, .int (nI (fb_ct (fun k => safS fo fl pl u k kz) (i + 1)))), (0, .ref x), (1, .int u), (2, .int (nI kz))] := (show (nI (fb_ct (fun k => safS fo fl pl u k kz) i)) + 1 = nI (fb_ct (fun k => safS fo fl pl u k kz) (i + 1)) from by rw [fb_ct_succ, hs, nI_1]; rfl) ▸ hl
        exact ih (i + 1) _ (by omega) (lv_sub hl [0, 1, 2, 3, 4] rfl)
  refine lv_iload_n hx hb dX2_safeDirections_0 rfl (lv_at hl 1 rfl) ?_
  have hPc := hP.sub (ws' := []) [] rfl
  have hDc := hD0.sub (ws' := []) [] (by decide) rfl
  have hKc := hK.sub (tys' := []) [] rfl
  refine c_callR (va_runS (As := [.int u]) (rest := []) ⟨hx, hb, hml, hown, hts⟩ (k_requireLoad_ok l D L0 u hu) (va_cwS 1 hts gX2_safeDirections_X2_requireLoad rfl rfl rfl (by decide +kernel) ⟨Nat.le_of_ble_eq_true rfl, Nat.le_of_ble_eq_true rfl⟩) ⟨cP_blind, cP_of hPc hKc hDc (kE_at hE0 hAL hS)⟩ rfl rfl hl.1 rfl (lv_room (Nat.le_of_ble_eq_true rfl)) dX2_safeDirections_1 ⟨Nat.le_of_ble_eq_true rfl, Nat.le_of_ble_eq_true rfl⟩) ?_
  show W _ _ _ _ _ _ _ _ _ _ _ _ _ _ _ (F0 m 4 ls [])
  refine lv_iload_n hx hb dX2_safeDirections_4 rfl (lv_at hl 2 rfl) ?_
  have hPc := hP.sub (ws' := []) [] rfl
  have hDc := hD0.sub (ws' := []) [] (by decide) rfl
  have hKc := hK.sub (tys' := []) [] rfl
  refine c_callR (va_runS (As := [.int (nI kz)]) (rest := []) ⟨hx, hb, hml, hown, hts⟩ (k_requireReach_ok l D L0 (nI kz) ⟨nI_le (a := 3) hkz.1 (by omega), nI_le (b := 30) hkz.2 (by decide)⟩) (va_cwS 1 hts gX2_safeDirections_X2_requireReach rfl rfl rfl (by decide +kernel) ⟨Nat.le_of_ble_eq_true rfl, Nat.le_of_ble_eq_true rfl⟩) ⟨cP_blind, cP_of hPc hKc hDc (kE_at hE0 hAL hS)⟩ rfl rfl hl.1 rfl (lv_room (Nat.le_of_ble_eq_true rfl)) dX2_safeDirections_5 ⟨Nat.le_of_ble_eq_true rfl, Nat.le_of_ble_eq_true rfl⟩) ?_
  show W _ _ _ _ _ _ _ _ _ _ _ _ _ _ _ (F0 m 8 ls [])
  refine lv_iconst (v := 0) hx hb dX2_safeDirections_8 (by decide) ?_
  refine lv_istore_n (lv' := [(3, .int 0), (0, .ref x), (1, .int u), (2, .int (nI kz))]) hx hb dX2_safeDirections_9 rfl hl (by decide) rfl (fun ls hl => ?_)
  refine lv_iconst (v := 0) hx hb dX2_safeDirections_10 (by decide) ?_
  refine lv_istore (lv' := [(4, .int 0), (3, .int 0), (0, .ref x), (1, .int u), (2, .int (nI kz))]) hx hb dX2_safeDirections_11 hl (by decide) rfl (fun ls hl => ?_)
  have hl : lv_has ls 5 [(4, .int (nI 0)), (3, .int 0), (0, .ref x), (1, .int u), (2, .int (nI kz))] := (show 0 = nI 0 from rfl) ▸ hl
  have hl : lv_has ls 5 [(4, .int (nI 0)), (3, .int (nI (fb_ct (fun k => safS fo fl pl u k kz) 0))), (0, .ref x), (1, .int u), (2, .int (nI kz))] := (show 0 = nI (fb_ct (fun k => safS fo fl pl u k kz) 0) from rfl) ▸ hl
  exact loop 8 0 _ (by omega) (lv_sub hl [0, 1, 2, 3, 4] rfl)
set_option maxHeartbeats 4000000 in
set_option maxRecDepth 100000 in
/-- platesNeeded(load, direction, reach) -/
theorem k_platesNeeded (l : Launch) (hfl : l.stackTraces = false) (D : va_G) (L0 : Nat) (cI : ClassId) (x rg tr pn ro rl d r : Nat) (ld li tl mo pl : Int32) (fo fl : Nat → Int32) (t0 t1 : Nat) (jp : Int32) (jo jl : Nat → Int32) (u v z : Int32) : vx_Met l yX2_platesNeeded wsX2_platesNeeded ({ frames := 7, cells := 3, slots := 18, locals := 103 }) (cP L0 D [(cI, .int)] [(x, .inr (2, [.ref rg, .ref tr, .ref pn, .int (nI d), .int (nI r), .int ld, .int li, .int tl, .int mo])), (rg, .inr (1, [.ref ro, .ref rl, .int pl])), (ro, .inl (cI, 4, .inl fo)), (rl, .inl (cI, 28, .inl (sh fl))), (tr, .inr (1, [.ref t0, .ref t1, .int jp])), (t0, .inl (cI, 4, .inl jo)), (t1, .inl (cI, 28, .inl jl))] [.ref x, .int u, .int v, .int z]) (cB (some (.int (pnN (fun k => safS fo fl (nI k) u v.toNatClampNeg z.toNatClampNeg) 13 0))) (fun H => k2 (inR v 0 7) (inR u 0 60 ∧ inR z 3 30) = 0 ∧ ∃ (p9 : Int32) (o9 l9 : Nat → Int32), va_P D vwCl [(x, .inr (2, [.ref rg, .ref tr, .ref pn, .int (nI d), .int (nI r), .int ld, .int li, .int tl, .int mo])), (rg, .inr (1, [.ref ro, .ref rl, .int pl])), (ro, .inl (cI, 4, .inl fo)), (rl, .inl (cI, 28, .inl (sh fl))), (tr, .inr (1, [.ref t0, .ref t1, .int p9])), (t0, .inl (cI, 4, .inl o9)), (t1, .inl (cI, 28, .inl l9))] H) (cA [(x, .inr (2, [.ref rg, .ref tr, .ref pn, .int (nI d), .int (nI r), .int ld, .int li, .int tl, .int mo])), (rg, .inr (1, [.ref ro, .ref rl, .int pl])), (ro, .inl (cI, 4, .inl fo)), (rl, .inl (cI, 28, .inl (sh fl))), (tr, .inr (1, [.ref t0, .ref t1, .int jp])), (t0, .inl (cI, 4, .inl jo)), (t1, .inl (cI, 28, .inl jl))])) (cX (fun E => (E = xIOB ∧ k2 (inR v 0 7) (inR u 0 60 ∧ inR z 3 30) = 1) ∨ (E = xIAE ∧ k2 (inR v 0 7) (inR u 0 60 ∧ inR z 3 30) = 2)) (fun H => ∃ (p9 : Int32) (o9 l9 : Nat → Int32), va_P D vwCl [(x, .inr (2, [.ref rg, .ref tr, .ref pn, .int (nI d), .int (nI r), .int ld, .int li, .int tl, .int mo])), (rg, .inr (1, [.ref ro, .ref rl, .int pl])), (ro, .inl (cI, 4, .inl fo)), (rl, .inl (cI, 28, .inl (sh fl))), (tr, .inr (1, [.ref t0, .ref t1, .int p9])), (t0, .inl (cI, 4, .inl o9)), (t1, .inl (cI, 28, .inl l9))] H) (cA [(x, .inr (2, [.ref rg, .ref tr, .ref pn, .int (nI d), .int (nI r), .int ld, .int li, .int tl, .int mo])), (rg, .inr (1, [.ref ro, .ref rl, .int pl])), (ro, .inl (cI, 4, .inl fo)), (rl, .inl (cI, 28, .inl (sh fl))), (tr, .inr (1, [.ref t0, .ref t1, .int jp])), (t0, .inl (cI, 4, .inl jo)), (t1, .inl (cI, 28, .inl jl))])) 3 18 (cA [(x, .inr (2, [.ref rg, .ref tr, .ref pn, .int (nI d), .int (nI r), .int ld, .int li, .int tl, .int mo])), (rg, .inr (1, [.ref ro, .ref rl, .int pl])), (ro, .inl (cI, 4, .inl fo)), (rl, .inl (cI, 28, .inl (sh fl))), (tr, .inr (1, [.ref t0, .ref t1, .int jp])), (t0, .inl (cI, 4, .inl jo)), (t1, .inl (cI, 28, .inl jl))]) := by
  refine vx_ofW (cc := cX2_platesNeeded) (maxL := 5) (ret := (some .int)) (by decide) rfl ?_
  intro p e s m args below meth c s₁ B hml hxt hv
  obtain ⟨rfl, hP, hK, hD0, hE0⟩ := hv
  have hx := B.exec
  have hb := B.bytes
  have hRt := B.returns
  have hts := atoms_spec (ws := wsX2_platesNeeded) B.pre
  have hown : s.vm.findClass RX2 = some m.cls := findClass_of_methodNamed B.named
  have hlocks := B.notSynchronized
  have hAL : ∀ z9 : Nat, cA [(x, .inr (2, [.ref rg, .ref tr, .ref pn, .int (nI d), .int (nI r), .int ld, .int li, .int tl, .int mo])), (rg, .inr (1, [.ref ro, .ref rl, .int pl])), (ro, .inl (cI, 4, .inl fo)), (rl, .inl (cI, 28, .inl (sh fl))), (tr, .inr (1, [.ref t0, .ref t1, .int jp])), (t0, .inl (cI, 4, .inl jo)), (t1, .inl (cI, 28, .inl jl))] z9 → L0 ≤ z9 := fun z9 ⟨k9, e9, h9⟩ => hD0.2 k9 (z9, e9) h9
  have hD : va_D (cA [(x, .inr (2, [.ref rg, .ref tr, .ref pn, .int (nI d), .int (nI r), .int ld, .int li, .int tl, .int mo])), (rg, .inr (1, [.ref ro, .ref rl, .int pl])), (ro, .inl (cI, 4, .inl fo)), (rl, .inl (cI, 28, .inl (sh fl))), (tr, .inr (1, [.ref t0, .ref t1, .int jp])), (t0, .inl (cI, 4, .inl jo)), (t1, .inl (cI, 28, .inl jl))]) [(x, .inr (2, [.ref rg, .ref tr, .ref pn, .int (nI d), .int (nI r), .int ld, .int li, .int tl, .int mo])), (rg, .inr (1, [.ref ro, .ref rl, .int pl])), (ro, .inl (cI, 4, .inl fo)), (rl, .inl (cI, 28, .inl (sh fl))), (tr, .inr (1, [.ref t0, .ref t1, .int jp])), (t0, .inl (cI, 4, .inl jo)), (t1, .inl (cI, 28, .inl jl))] := ⟨hD0.1, fun k9 z9 h9 => cA_of h9⟩
  generalize hAe : cA [(x, .inr (2, [.ref rg, .ref tr, .ref pn, .int (nI d), .int (nI r), .int ld, .int li, .int tl, .int mo])), (rg, .inr (1, [.ref ro, .ref rl, .int pl])), (ro, .inl (cI, 4, .inl fo)), (rl, .inl (cI, 28, .inl (sh fl))), (tr, .inr (1, [.ref t0, .ref t1, .int jp])), (t0, .inl (cI, 4, .inl jo)), (t1, .inl (cI, 28, .inl jl))] = A at hD hAL ⊢
  have hS : va_S A s.heap s.heap [] := va_S.rf
  have hiX2 : ∀ w ∈ u_ws RX2 TX2 9, w ∈ wsX2_platesNeeded := by decide +kernel
  have hiX1 : ∀ w ∈ u_ws RX1 TX1 3, w ∈ wsX2_platesNeeded := by decide +kernel
  have hl := lv_entry ([.ref x, .int u, .int v, .int z]) (n := 5) (Nat.le_of_ble_eq_true rfl)
  rw [lg_entry_eq]
  generalize (lg_sl ([.ref x, .int u, .int v, .int z]) ++ List.replicate (5 - (lg_sl ([.ref x, .int u, .int v, .int z])).length) Slot.unset).toArray = ls at hl ⊢
  have hl : lv_has ls 5 [(0, .ref x), (1, .int u), (2, .int v), (3, .int z)] := hl
  refine lv_iload_n hx hb dX2_platesNeeded_0 rfl (lv_at hl 2 rfl) ?_
  have hPc := hP.sub (ws' := []) [] rfl
  have hDc : va_D (fun q : Nat => L0 ≤ q) [] := (hD.sub (ws' := []) [] (by decide) rfl).weaken (fun _ z9 _ h9 => hAL _ h9)
  have hKc := hK.sub (tys' := []) [] rfl
  refine c_callT (vx_runS (As := [.int v]) (rest := []) ⟨hx, hb, hml, hown, hts⟩ (k_requireDirection l hfl D L0 v) (va_cwS 1 hts gX2_platesNeeded_X2_requireDirection rfl rfl rfl (by decide +kernel) ⟨Nat.le_of_ble_eq_true rfl, Nat.le_of_ble_eq_true rfl⟩) ⟨cP_blind, cP_of hPc hKc hDc (kE_at hE0 hAL hS)⟩ rfl rfl hl.1 rfl (lv_room (Nat.le_of_ble_eq_true rfl)) dX2_platesNeeded_1 ⟨Nat.le_of_ble_eq_true rfl, Nat.le_of_ble_eq_true rfl⟩) hS (fun E ce q9 H1 hE hz1 hk1 hS hce hcv hcl => ?_) (fun hp1 => ?_)
  · obtain ⟨rfl, hE⟩ := hE
    have hP := c_PX hP hk1
    exact vx_out (fun z hz => (hxt z hz).elim) hlocks hce hcv hcl (fun t ht hvm => ⟨⟨Or.inl ⟨rfl, k2_n1 hE⟩, by rw [ht]; exact ⟨_, _, _, hP⟩⟩, hS.F ht⟩) (fun z hz => hS.2.2 z hz) (Nat.le_of_ble_eq_true rfl) (Nat.le_of_ble_eq_true rfl)
  · show W _ _ _ _ _ _ _ _ _ _ _ _ _ _ _ (F0 m 4 ls [])
    refine lv_iload_n hx hb dX2_platesNeeded_4 rfl (lv_at hl 1 rfl) ?_
    have hPc := hP.sub (ws' := []) [] rfl
    have hDc : va_D (fun q : Nat => L0 ≤ q) [] := (hD.sub (ws' := []) [] (by decide) rfl).weaken (fun _ z9 _ h9 => hAL _ h9)
    have hKc := hK.sub (tys' := []) [] rfl
    refine c_callT (vx_runS (As := [.int u]) (rest := []) ⟨hx, hb, hml, hown, hts⟩ (k_requireLoad l hfl D L0 u) (va_cwS 1 hts gX2_platesNeeded_X2_requireLoad rfl rfl rfl (by decide +kernel) ⟨Nat.le_of_ble_eq_true rfl, Nat.le_of_ble_eq_true rfl⟩) ⟨cP_blind, cP_of hPc hKc hDc (kE_at hE0 hAL hS)⟩ rfl rfl hl.1 rfl (lv_room (Nat.le_of_ble_eq_true rfl)) dX2_platesNeeded_5 ⟨Nat.le_of_ble_eq_true rfl, Nat.le_of_ble_eq_true rfl⟩) hS (fun E ce q9 H1 hE hz1 hk1 hS hce hcv hcl => ?_) (fun hp2 => ?_)
    · obtain ⟨rfl, hE⟩ := hE
      have hP := c_PX hP hk1
      exact vx_out (fun z hz => (hxt z hz).elim) hlocks hce hcv hcl (fun t ht hvm => ⟨⟨Or.inr ⟨rfl, k2_n2 hp1 (fun q => hE q.1)⟩, by rw [ht]; exact ⟨_, _, _, hP⟩⟩, hS.F ht⟩) (fun z hz => hS.2.2 z hz) (Nat.le_of_ble_eq_true rfl) (Nat.le_of_ble_eq_true rfl)
    · show W _ _ _ _ _ _ _ _ _ _ _ _ _ _ _ (F0 m 8 ls [])
      refine lv_iload_n hx hb dX2_platesNeeded_8 rfl (lv_at hl 3 rfl) ?_
      have hPc := hP.sub (ws' := []) [] rfl
      have hDc : va_D (fun q : Nat => L0 ≤ q) [] := (hD.sub (ws' := []) [] (by decide) rfl).weaken (fun _ z9 _ h9 => hAL _ h9)
      have hKc := hK.sub (tys' := []) [] rfl
      refine c_callT (vx_runS (As := [.int z]) (rest := []) ⟨hx, hb, hml, hown, hts⟩ (k_requireReach l hfl D L0 z) (va_cwS 1 hts gX2_platesNeeded_X2_requireReach rfl rfl rfl (by decide +kernel) ⟨Nat.le_of_ble_eq_true rfl, Nat.le_of_ble_eq_true rfl⟩) ⟨cP_blind, cP_of hPc hKc hDc (kE_at hE0 hAL hS)⟩ rfl rfl hl.1 rfl (lv_room (Nat.le_of_ble_eq_true rfl)) dX2_platesNeeded_9 ⟨Nat.le_of_ble_eq_true rfl, Nat.le_of_ble_eq_true rfl⟩) hS (fun E ce q9 H1 hE hz1 hk1 hS hce hcv hcl => ?_) (fun hp3 => ?_)
      · obtain ⟨rfl, hE⟩ := hE
        have hP := c_PX hP hk1
        exact vx_out (fun z hz => (hxt z hz).elim) hlocks hce hcv hcl (fun t ht hvm => ⟨⟨Or.inr ⟨rfl, k2_n2 hp1 (fun q => hE q.2)⟩, by rw [ht]; exact ⟨_, _, _, hP⟩⟩, hS.F ht⟩) (fun z hz => hS.2.2 z hz) (Nat.le_of_ble_eq_true rfl) (Nat.le_of_ble_eq_true rfl)
      · show W _ _ _ _ _ _ _ _ _ _ _ _ _ _ _ (F0 m 12 ls [])
        have hk0 : k2 (inR v 0 7) (inR u 0 60 ∧ inR z 3 30) = 0 := k2_yes hp1 ⟨hp2, hp3⟩
        obtain ⟨kv, hkv, hv⟩ := inR_nI (n := 7) (by decide) hp1
        have hl : lv_has ls 5 [(0, .ref x), (1, .int u), (2, .int (nI kv)), (3, .int z)] := (show v = nI kv from hv) ▸ hl
        obtain ⟨kz, hkz, hz⟩ := inR_n3 (n := 30) (by decide) hp3
        have hl : lv_has ls 5 [(0, .ref x), (1, .int u), (2, .int (nI kv)), (3, .int (nI kz))] := (show z = nI kz from hz) ▸ hl
        have hvn : v.toNatClampNeg = kv := by rw [hv, nI_clamp (by omega)]
        have hzn : z.toNatClampNeg = kz := by rw [hz, nI_clamp (by omega)]
        refine lv_aload_n hx hb dX2_platesNeeded_12 rfl (lv_at hl 0 rfl) ?_
        refine va_get (D := D) (ci := 2) (v := .ref tr) (C := RX2) (T := TX2) (N := 9) hx hb hts hiX2 hown hK hP 0 rfl rfl 1 (by decide) (hts (.fieldLink RX2 16 "CraneReach" "trial" "LCraneReach$Rig;") (by decide +kernel)) (fun _ h9 => h9) rfl dX2_platesNeeded_13 ?_
        refine lv_aload_n hx hb dX2_platesNeeded_16 rfl (lv_at hl 0 rfl) ?_
        refine va_get (D := D) (ci := 2) (v := .ref rg) (C := RX2) (T := TX2) (N := 9) hx hb hts hiX2 hown hK hP 0 rfl rfl 0 (by decide) (hts (.fieldLink RX2 12 "CraneReach" "rig" "LCraneReach$Rig;") (by decide +kernel)) (fun _ h9 => h9) rfl dX2_platesNeeded_17 ?_
        have hPc := hP.sub (ws' := [(tr, .inr (1, [.ref t0, .ref t1, .int jp])), (t0, .inl (cI, 4, .inl jo)), (t1, .inl (cI, 28, .inl jl)), (rg, .inr (1, [.ref ro, .ref rl, .int pl])), (ro, .inl (cI, 4, .inl fo)), (rl, .inl (cI, 28, .inl (sh fl)))]) [4, 5, 6, 1, 2, 3] rfl
        have hDc : va_D (fun q : Nat => L0 ≤ q) [(tr, .inr (1, [.ref t0, .ref t1, .int jp])), (t0, .inl (cI, 4, .inl jo)), (t1, .inl (cI, 28, .inl jl)), (rg, .inr (1, [.ref ro, .ref rl, .int pl])), (ro, .inl (cI, 4, .inl fo)), (rl, .inl (cI, 28, .inl (sh fl)))] := (hD.sub (ws' := [(tr, .inr (1, [.ref t0, .ref t1, .int jp])), (t0, .inl (cI, 4, .inl jo)), (t1, .inl (cI, 28, .inl jl)), (rg, .inr (1, [.ref ro, .ref rl, .int pl])), (ro, .inl (cI, 4, .inl fo)), (rl, .inl (cI, 28, .inl (sh fl)))]) [4, 5, 6, 1, 2, 3] (by decide) rfl).weaken (fun _ z9 _ h9 => hAL _ h9)
        have hKc := hK.sub (tys' := [(cI, .int)]) [0] rfl
        refine c_callB (va_runV (As := [.ref rg]) (rest := []) ⟨hx, hb, hml, hown, hts⟩ (k_becomeLike l D L0 cI tr t0 t1 jp jo jl rg ro rl pl fo fl) (cwV 1 hts gX2_platesNeeded_X1_becomeLike rfl rfl rfl (by decide +kernel) ⟨Nat.le_of_ble_eq_true rfl, Nat.le_of_ble_eq_true rfl⟩) ⟨cP_blind, va_recv hKc hPc (ci := 1) (q0 := 0) rfl rfl, cP_of hPc hKc hDc (kE_at hE0 hAL hS)⟩ rfl rfl hl.1 rfl (lv_room (Nat.le_of_ble_eq_true rfl)) dX2_platesNeeded_20 ⟨Nat.le_of_ble_eq_true rfl, Nat.le_of_ble_eq_true rfl⟩) hS (fun z9 _ ⟨k9, e9, h9⟩ => (hD.sub (ws' := [(tr, .inr (1, [.ref t0, .ref t1, .int jp])), (t0, .inl (cI, 4, .inl jo)), (t1, .inl (cI, 28, .inl jl)), (rg, .inr (1, [.ref ro, .ref rl, .int pl])), (ro, .inl (cI, 4, .inl fo)), (rl, .inl (cI, 28, .inl (sh fl)))]) [4, 5, 6, 1, 2, 3] (by decide) rfl).2 k9 (z9, e9) h9) (fun z9 ⟨k9, e9, h9⟩ => (hD.sub (ws' := [(tr, .inr (1, [.ref t0, .ref t1, .int jp])), (t0, .inl (cI, 4, .inl jo)), (t1, .inl (cI, 28, .inl jl)), (rg, .inr (1, [.ref ro, .ref rl, .int pl])), (ro, .inl (cI, 4, .inl fo)), (rl, .inl (cI, 28, .inl (sh fl)))]) [4, 5, 6, 1, 2, 3] (by decide) rfl).2 k9 (z9, e9) h9) (fun H1 locs hB hz1 hk1 hS => ?_)
        obtain ⟨hP, hD⟩ := c_join (ws' := [(x, .inr (2, [.ref rg, .ref tr, .ref pn, .int (nI d), .int (nI r), .int ld, .int li, .int tl, .int mo])), (rg, .inr (1, [.ref ro, .ref rl, .int pl])), (ro, .inl (cI, 4, .inl fo)), (rl, .inl (cI, 28, .inl (sh fl))), (tr, .inr (1, [.ref t0, .ref t1, .int pl])), (t0, .inl (cI, 4, .inl fo)), (t1, .inl (cI, 28, .inl (sh fl)))]) (wr := [(x, .inr (2, [.ref rg, .ref tr, .ref pn, .int (nI d), .int (nI r), .int ld, .int li, .int tl, .int mo]))]) (w1 := [(tr, .inr (1, [.ref t0, .ref t1, .int pl])), (t0, .inl (cI, 4, .inl fo)), (t1, .inl (cI, 28, .inl (sh fl))), (rg, .inr (1, [.ref ro, .ref rl, .int pl])), (ro, .inl (cI, 4, .inl fo)), (rl, .inl (cI, 28, .inl (sh fl)))]) hP hD [4, 5, 6, 1, 2, 3] [0] [0, 4, 5, 6, 1, 2, 3] rfl rfl (by decide) (by decide) hk1 hB rfl rfl rfl (by decide)
        generalize H1 = H at hP hS ⊢
        show W _ _ _ _ _ _ _ _ _ _ _ _ _ _ _ (F0 m 23 ls [])
        have loop : ∀ (n : Nat) (i : Nat) (tp : Int32) (H : Heap) (locs : List Loc) (ls : Array Slot), i + n = 13 → pnN (fun k => safS fo fl (nI k) u kv kz) n i = pnN (fun k => safS fo fl (nI k) u v.toNatClampNeg z.toNatClampNeg) 13 0 → lv_has ls 5 [(4, .int (nI i)), (0, .ref x), (1, .int u), (2, .int (nI kv)), (3, .int (nI kz))] → va_P D vwCl [(x, .inr (2, [.ref rg, .ref tr, .ref pn, .int (nI d), .int (nI r), .int ld, .int li, .int tl, .int mo])), (rg, .inr (1, [.ref ro, .ref rl, .int pl])), (ro, .inl (cI, 4, .inl fo)), (rl, .inl (cI, 28, .inl (sh fl))), (tr, .inr (1, [.ref t0, .ref t1, .int tp])), (t0, .inl (cI, 4, .inl fo)), (t1, .inl (cI, 28, .inl (sh fl)))] H → va_D A [(x, .inr (2, [.ref rg, .ref tr, .ref pn, .int (nI d), .int (nI r), .int ld, .int li, .int tl, .int mo])), (rg, .inr (1, [.ref ro, .ref rl, .int pl])), (ro, .inl (cI, 4, .inl fo)), (rl, .inl (cI, 28, .inl (sh fl))), (tr, .inr (1, [.ref t0, .ref t1, .int tp])), (t0, .inl (cI, 4, .inl fo)), (t1, .inl (cI, 28, .inl (sh fl)))] → va_S A s.heap H locs → W p l e (headSpec wsX2_platesNeeded ({ frames := 7, cells := 3, slots := 18, locals := 103 })).room s m ([.ref x, .int u, .int v, .int z]).toArray below meth c H locs (0 + 1 + 1 + 1 + 0) (0 + 6 + 6 + 6 + 0) (vx_MQ below (cB (some (.int (pnN (fun k => safS fo fl (nI k) u v.toNatClampNeg z.toNatClampNeg) 13 0))) (fun H => k2 (inR v 0 7) (inR u 0 60 ∧ inR z 3 30) = 0 ∧ ∃ (p9 : Int32) (o9 l9 : Nat → Int32), va_P D vwCl [(x, .inr (2, [.ref rg, .ref tr, .ref pn, .int (nI d), .int (nI r), .int ld, .int li, .int tl, .int mo])), (rg, .inr (1, [.ref ro, .ref rl, .int pl])), (ro, .inl (cI, 4, .inl fo)), (rl, .inl (cI, 28, .inl (sh fl))), (tr, .inr (1, [.ref t0, .ref t1, .int p9])), (t0, .inl (cI, 4, .inl o9)), (t1, .inl (cI, 28, .inl l9))] H) A) (cX (fun E => (E = xIOB ∧ k2 (inR v 0 7) (inR u 0 60 ∧ inR z 3 30) = 1) ∨ (E = xIAE ∧ k2 (inR v 0 7) (inR u 0 60 ∧ inR z 3 30) = 2)) (fun H => ∃ (p9 : Int32) (o9 l9 : Nat → Int32), va_P D vwCl [(x, .inr (2, [.ref rg, .ref tr, .ref pn, .int (nI d), .int (nI r), .int ld, .int li, .int tl, .int mo])), (rg, .inr (1, [.ref ro, .ref rl, .int pl])), (ro, .inl (cI, 4, .inl fo)), (rl, .inl (cI, 28, .inl (sh fl))), (tr, .inr (1, [.ref t0, .ref t1, .int p9])), (t0, .inl (cI, 4, .inl o9)), (t1, .inl (cI, 28, .inl l9))] H) A) ([.ref x, .int u, .int v, .int z]).toArray s 3 18 A) (F0 m 26 ls []) := by
          intro n
          induction n with
          | zero =>
            intro i tp H locs ls hn hG hl hP hD hS
            have hi : i = 13 := by omega
            rw [hi] at hl hG
            refine lv_iload hx hb dX2_platesNeeded_26 (lv_at hl 0 rfl) ?_
            refine lv_bipush (v := 12) hx hb dX2_platesNeeded_28 (by decide) ?_
            refine lv_icmp_gt (tgt := 64) hx hb dX2_platesNeeded_30 (by decide) (fun _ => ?_) (fun c_53 => absurd (by decide) c_53)
            refine lv_iconst (v := -1) hx hb dX2_platesNeeded_64 (by decide) ?_
            refine vx_ret ?_
            refine W.widen (k := 3) (n := 18) (Nat.le_of_ble_eq_true rfl) (Nat.le_of_ble_eq_true rfl) ?_
            exact W.iret (v := (-1)) hx hb hRt (fun t ht hW => ⟨⟨by rw [← hG]; rfl, by rw [ht]; exact ⟨hk0, _, _, _, hP⟩⟩, hS.F ht⟩) hS.2.2 dX2_platesNeeded_65
          | succ n ih =>
            intro i tp H locs ls hn hG hl hP hD hS
            refine lv_iload hx hb dX2_platesNeeded_26 (lv_at hl 0 rfl) ?_
            refine lv_bipush (v := 12) hx hb dX2_platesNeeded_28 (by decide) ?_
            refine lv_icmp_gt (tgt := 64) hx hb dX2_platesNeeded_30 (by decide) (fun c_54 => absurd c_54 (Int32.not_lt.mpr (nI_le (b := 12) (by omega) (by decide)))) (fun _ => ?_)
            refine lv_aload_n hx hb dX2_platesNeeded_33 rfl (lv_at hl 1 rfl) ?_
            refine va_get (D := D) (ci := 2) (v := .ref tr) (C := RX2) (T := TX2) (N := 9) hx hb hts hiX2 hown hK hP 0 rfl rfl 1 (by decide) (hts (.fieldLink RX2 16 "CraneReach" "trial" "LCraneReach$Rig;") (by decide +kernel)) (fun _ h9 => h9) rfl dX2_platesNeeded_34 ?_
            refine lv_iload hx hb dX2_platesNeeded_37 (lv_at hl 0 rfl) ?_
            refine va_put (D := D) (ci := 1) (v := .int (nI i)) (ty := .int) (C := RX1) (T := TX1) (N := 3) hx hb hts hiX1 tyX1 tyX1_ok nmX1 hown hK hP hD hS 4 rfl rfl 2 (by decide) (hts (.fieldLink RX2 45 "CraneReach$Rig" "plates" "I") (by decide +kernel)) (fun _ h9 => h9) rfl (by decide +kernel) rfl rfl (Nat.le_of_ble_eq_true rfl) dX2_platesNeeded_39 (fun H locs hP hD hS => ?_)
            have hP : va_P D vwCl [(x, .inr (2, [.ref rg, .ref tr, .ref pn, .int (nI d), .int (nI r), .int ld, .int li, .int tl, .int mo])), (rg, .inr (1, [.ref ro, .ref rl, .int pl])), (ro, .inl (cI, 4, .inl fo)), (rl, .inl (cI, 28, .inl (sh fl))), (tr, .inr (1, [.ref t0, .ref t1, .int (nI i)])), (t0, .inl (cI, 4, .inl fo)), (t1, .inl (cI, 28, .inl (sh fl)))] H := hP
            have hD : va_D A [(x, .inr (2, [.ref rg, .ref tr, .ref pn, .int (nI d), .int (nI r), .int ld, .int li, .int tl, .int mo])), (rg, .inr (1, [.ref ro, .ref rl, .int pl])), (ro, .inl (cI, 4, .inl fo)), (rl, .inl (cI, 28, .inl (sh fl))), (tr, .inr (1, [.ref t0, .ref t1, .int (nI i)])), (t0, .inl (cI, 4, .inl fo)), (t1, .inl (cI, 28, .inl (sh fl)))] := hD
            refine lv_aload_n hx hb dX2_platesNeeded_42 rfl (lv_at hl 1 rfl) ?_
            refine va_get (D := D) (ci := 2) (v := .ref tr) (C := RX2) (T := TX2) (N := 9) hx hb hts hiX2 hown hK hP 0 rfl rfl 1 (by decide) (hts (.fieldLink RX2 16 "CraneReach" "trial" "LCraneReach$Rig;") (by decide +kernel)) (fun _ h9 => h9) rfl dX2_platesNeeded_43 ?_
            refine lv_iload_n hx hb dX2_platesNeeded_46 rfl (lv_at hl 2 rfl) ?_
            refine lv_iload_n hx hb dX2_platesNeeded_47 rfl (lv_at hl 3 rfl) ?_
            refine lv_iload_n hx hb dX2_platesNeeded_48 rfl (lv_at hl 4 rfl) ?_
            have hPc := hP.sub (ws' := [(tr, .inr (1, [.ref t0, .ref t1, .int (nI i)])), (t0, .inl (cI, 4, .inl fo)), (t1, .inl (cI, 28, .inl (sh fl)))]) [4, 5, 6] rfl
            have hDc : va_D (fun q : Nat => L0 ≤ q) [(tr, .inr (1, [.ref t0, .ref t1, .int (nI i)])), (t0, .inl (cI, 4, .inl fo)), (t1, .inl (cI, 28, .inl (sh fl)))] := (hD.sub (ws' := [(tr, .inr (1, [.ref t0, .ref t1, .int (nI i)])), (t0, .inl (cI, 4, .inl fo)), (t1, .inl (cI, 28, .inl (sh fl)))]) [4, 5, 6] (by decide) rfl).weaken (fun _ z9 _ h9 => hAL _ h9)
            have hKc := hK.sub (tys' := [(cI, .int)]) [0] rfl
            refine c_callR (va_runV (As := [.int u, .int (nI kv), .int (nI kz)]) (rest := []) ⟨hx, hb, hml, hown, hts⟩ (k_isSafe l D L0 cI tr t0 t1 (nI i) fo fl kv kz u (by omega) hkz) (cwV 3 hts gX2_platesNeeded_X1_isSafe rfl rfl rfl (by decide +kernel) ⟨Nat.le_of_ble_eq_true rfl, Nat.le_of_ble_eq_true rfl⟩) ⟨cP_blind, va_recv hKc hPc (ci := 1) (q0 := 0) rfl rfl, cP_of hPc hKc hDc (kE_at hE0 hAL hS)⟩ rfl rfl hl.1 rfl (lv_room (Nat.le_of_ble_eq_true rfl)) dX2_platesNeeded_49 ⟨Nat.le_of_ble_eq_true rfl, Nat.le_of_ble_eq_true rfl⟩) ?_
            show W _ _ _ _ _ _ _ _ _ _ _ _ _ _ _ (F0 m 52 ls [.int (bI (safS fo fl (nI i) u kv kz))])
            obtain ⟨b_55, hbv_56⟩ : ∃ z : Bool, z = safS fo fl (nI i) u kv kz := ⟨_, rfl⟩
            refine c_top (show bI (safS fo fl (nI i) u kv kz) = bI b_55 from by rw [hbv_56]) ?_
            refine lv_if_eq (tgt := 58) hx hb dX2_platesNeeded_52 (by decide) (fun c_57 => ?_) (fun c_57 => ?_)
            · have hs : safS fo fl (nI i) u kv kz = false := by rw [← hbv_56]; cases b_55 with | false => rfl | true => exact absurd c_57 (by decide)
              refine lv_iinc (v := (nI i) + 1) (lv' := [(4, .int ((nI i) + 1)), (0, .ref x), (1, .int u), (2, .int (nI kv)), (3, .int (nI kz))]) hx hb dX2_platesNeeded_58 hl (k := 0) rfl rfl (by decide) rfl (fun ls hl => ?_)
              refine lv_goto (tgt := 26) hx hb dX2_platesNeeded_61 (by decide) ?_
              have hl : lv_has ls 5 [(4, .int (nI (i + 1))), (0, .ref x), (1, .int u), (2, .int (nI kv)), (3, .int (nI kz))] := (show (nI i) + 1 = nI (i + 1) from nI_1 i) ▸ hl
              exact ih (i + 1) _ _ _ _ (by omega) (by rw [← hG, pnN, if_neg (by rw [hs]; decide)]) (lv_sub hl [0, 1, 2, 3, 4] rfl) hP hD hS
            · have hs : safS fo fl (nI i) u kv kz = true := by rw [← hbv_56]; cases b_55 with | true => rfl | false => exact absurd rfl c_57
              refine lv_iload hx hb dX2_platesNeeded_55 (lv_at hl 0 rfl) ?_
              refine vx_ret ?_
              refine W.widen (k := 3) (n := 18) (Nat.le_of_ble_eq_true rfl) (Nat.le_of_ble_eq_true rfl) ?_
              exact W.iret (v := (nI i)) hx hb hRt (fun t ht hW => ⟨⟨by rw [← hG, pnN, if_pos hs], by rw [ht]; exact ⟨hk0, _, _, _, hP⟩⟩, hS.F ht⟩) hS.2.2 dX2_platesNeeded_57
        refine lv_iconst (v := 0) hx hb dX2_platesNeeded_23 (by decide) ?_
        refine lv_istore (lv' := [(4, .int 0), (0, .ref x), (1, .int u), (2, .int (nI kv)), (3, .int (nI kz))]) hx hb dX2_platesNeeded_24 hl (by decide) rfl (fun ls hl => ?_)
        have hl : lv_has ls 5 [(4, .int (nI 0)), (0, .ref x), (1, .int u), (2, .int (nI kv)), (3, .int (nI kz))] := (show 0 = nI 0 from rfl) ▸ hl
        exact loop 13 0 _ _ _ _ (by omega) (by rw [hvn, hzn]) (lv_sub hl [0, 1, 2, 3, 4] rfl) hP hD hS
set_option maxHeartbeats 4000000 in
set_option maxRecDepth 100000 in
/-- fewestMoves(load, direction, reach) -/
theorem k_fewestMoves (l : Launch) (hfl : l.stackTraces = false) (D : va_G) (L0 : Nat) (cI : ClassId) (x rg tr pn ro rl d r : Nat) (ld li tl mo pl : Int32) (fo fl : Nat → Int32) (pm pf : Nat) (jn : Int32) (jm jf : Nat → Int32) (u v z : Int32) (hd : d < 8) (hr : 3 ≤ r ∧ r ≤ 30) : vx_Met l yX2_fewestMoves wsX2_fewestMoves ({ frames := 7, cells := 3, slots := 18, locals := 148 }) (cP L0 D [(cI, .int)] [(x, .inr (2, [.ref rg, .ref tr, .ref pn, .int (nI d), .int (nI r), .int ld, .int li, .int tl, .int mo])), (rg, .inr (1, [.ref ro, .ref rl, .int pl])), (ro, .inl (cI, 4, .inl fo)), (rl, .inl (cI, 28, .inl (sh fl))), (pn, .inr (0, [.ref pm, .ref pf, .int jn])), (pm, .inl (cI, 224, .inl jm)), (pf, .inl (cI, 224, .inl jf))] [.ref x, .int u, .int v, .int z]) (cB (some (.int ((goS (safS fo fl pl u) d r).1 (8 * z.toNatClampNeg + v.toNatClampNeg)))) (fun H => k2 (inR v 0 7) (inR u 0 60 ∧ inR z 3 30) = 0 ∧ ∃ (n9 : Int32) (m9 f9 : Nat → Int32), va_P D vwCl [(x, .inr (2, [.ref rg, .ref tr, .ref pn, .int (nI d), .int (nI r), .int ld, .int li, .int tl, .int mo])), (rg, .inr (1, [.ref ro, .ref rl, .int pl])), (ro, .inl (cI, 4, .inl fo)), (rl, .inl (cI, 28, .inl (sh fl))), (pn, .inr (0, [.ref pm, .ref pf, .int n9])), (pm, .inl (cI, 224, .inl m9)), (pf, .inl (cI, 224, .inl f9))] H) (cA [(x, .inr (2, [.ref rg, .ref tr, .ref pn, .int (nI d), .int (nI r), .int ld, .int li, .int tl, .int mo])), (rg, .inr (1, [.ref ro, .ref rl, .int pl])), (ro, .inl (cI, 4, .inl fo)), (rl, .inl (cI, 28, .inl (sh fl))), (pn, .inr (0, [.ref pm, .ref pf, .int jn])), (pm, .inl (cI, 224, .inl jm)), (pf, .inl (cI, 224, .inl jf))])) (cX (fun E => (E = xIOB ∧ k2 (inR v 0 7) (inR u 0 60 ∧ inR z 3 30) = 1) ∨ (E = xIAE ∧ k2 (inR v 0 7) (inR u 0 60 ∧ inR z 3 30) = 2)) (fun H => ∃ (n9 : Int32) (m9 f9 : Nat → Int32), va_P D vwCl [(x, .inr (2, [.ref rg, .ref tr, .ref pn, .int (nI d), .int (nI r), .int ld, .int li, .int tl, .int mo])), (rg, .inr (1, [.ref ro, .ref rl, .int pl])), (ro, .inl (cI, 4, .inl fo)), (rl, .inl (cI, 28, .inl (sh fl))), (pn, .inr (0, [.ref pm, .ref pf, .int n9])), (pm, .inl (cI, 224, .inl m9)), (pf, .inl (cI, 224, .inl f9))] H) (cA [(x, .inr (2, [.ref rg, .ref tr, .ref pn, .int (nI d), .int (nI r), .int ld, .int li, .int tl, .int mo])), (rg, .inr (1, [.ref ro, .ref rl, .int pl])), (ro, .inl (cI, 4, .inl fo)), (rl, .inl (cI, 28, .inl (sh fl))), (pn, .inr (0, [.ref pm, .ref pf, .int jn])), (pm, .inl (cI, 224, .inl jm)), (pf, .inl (cI, 224, .inl jf))])) 3 18 (cA [(x, .inr (2, [.ref rg, .ref tr, .ref pn, .int (nI d), .int (nI r), .int ld, .int li, .int tl, .int mo])), (rg, .inr (1, [.ref ro, .ref rl, .int pl])), (ro, .inl (cI, 4, .inl fo)), (rl, .inl (cI, 28, .inl (sh fl))), (pn, .inr (0, [.ref pm, .ref pf, .int jn])), (pm, .inl (cI, 224, .inl jm)), (pf, .inl (cI, 224, .inl jf))]) := by
  refine vx_ofW (cc := cX2_fewestMoves) (maxL := 4) (ret := (some .int)) (by decide) rfl ?_
  intro p e s m args below meth c s₁ B hml hxt hv
  obtain ⟨rfl, hP, hK, hD0, hE0⟩ := hv
  have hx := B.exec
  have hb := B.bytes
  have hRt := B.returns
  have hts := atoms_spec (ws := wsX2_fewestMoves) B.pre
  have hown : s.vm.findClass RX2 = some m.cls := findClass_of_methodNamed B.named
  have hlocks := B.notSynchronized
  have hAL : ∀ z9 : Nat, cA [(x, .inr (2, [.ref rg, .ref tr, .ref pn, .int (nI d), .int (nI r), .int ld, .int li, .int tl, .int mo])), (rg, .inr (1, [.ref ro, .ref rl, .int pl])), (ro, .inl (cI, 4, .inl fo)), (rl, .inl (cI, 28, .inl (sh fl))), (pn, .inr (0, [.ref pm, .ref pf, .int jn])), (pm, .inl (cI, 224, .inl jm)), (pf, .inl (cI, 224, .inl jf))] z9 → L0 ≤ z9 := fun z9 ⟨k9, e9, h9⟩ => hD0.2 k9 (z9, e9) h9
  have hD : va_D (cA [(x, .inr (2, [.ref rg, .ref tr, .ref pn, .int (nI d), .int (nI r), .int ld, .int li, .int tl, .int mo])), (rg, .inr (1, [.ref ro, .ref rl, .int pl])), (ro, .inl (cI, 4, .inl fo)), (rl, .inl (cI, 28, .inl (sh fl))), (pn, .inr (0, [.ref pm, .ref pf, .int jn])), (pm, .inl (cI, 224, .inl jm)), (pf, .inl (cI, 224, .inl jf))]) [(x, .inr (2, [.ref rg, .ref tr, .ref pn, .int (nI d), .int (nI r), .int ld, .int li, .int tl, .int mo])), (rg, .inr (1, [.ref ro, .ref rl, .int pl])), (ro, .inl (cI, 4, .inl fo)), (rl, .inl (cI, 28, .inl (sh fl))), (pn, .inr (0, [.ref pm, .ref pf, .int jn])), (pm, .inl (cI, 224, .inl jm)), (pf, .inl (cI, 224, .inl jf))] := ⟨hD0.1, fun k9 z9 h9 => cA_of h9⟩
  generalize hAe : cA [(x, .inr (2, [.ref rg, .ref tr, .ref pn, .int (nI d), .int (nI r), .int ld, .int li, .int tl, .int mo])), (rg, .inr (1, [.ref ro, .ref rl, .int pl])), (ro, .inl (cI, 4, .inl fo)), (rl, .inl (cI, 28, .inl (sh fl))), (pn, .inr (0, [.ref pm, .ref pf, .int jn])), (pm, .inl (cI, 224, .inl jm)), (pf, .inl (cI, 224, .inl jf))] = A at hD hAL ⊢
  have hS : va_S A s.heap s.heap [] := va_S.rf
  have hiX2 : ∀ w ∈ u_ws RX2 TX2 9, w ∈ wsX2_fewestMoves := by decide +kernel
  have hl := lv_entry ([.ref x, .int u, .int v, .int z]) (n := 4) (Nat.le_of_ble_eq_true rfl)
  rw [lg_entry_eq]
  generalize (lg_sl ([.ref x, .int u, .int v, .int z]) ++ List.replicate (4 - (lg_sl ([.ref x, .int u, .int v, .int z])).length) Slot.unset).toArray = ls at hl ⊢
  have hl : lv_has ls 4 [(0, .ref x), (1, .int u), (2, .int v), (3, .int z)] := hl
  refine lv_iload_n hx hb dX2_fewestMoves_0 rfl (lv_at hl 2 rfl) ?_
  have hPc := hP.sub (ws' := []) [] rfl
  have hDc : va_D (fun q : Nat => L0 ≤ q) [] := (hD.sub (ws' := []) [] (by decide) rfl).weaken (fun _ z9 _ h9 => hAL _ h9)
  have hKc := hK.sub (tys' := []) [] rfl
  refine c_callT (vx_runS (As := [.int v]) (rest := []) ⟨hx, hb, hml, hown, hts⟩ (k_requireDirection l hfl D L0 v) (va_cwS 1 hts gX2_fewestMoves_X2_requireDirection rfl rfl rfl (by decide +kernel) ⟨Nat.le_of_ble_eq_true rfl, Nat.le_of_ble_eq_true rfl⟩) ⟨cP_blind, cP_of hPc hKc hDc (kE_at hE0 hAL hS)⟩ rfl rfl hl.1 rfl (lv_room (Nat.le_of_ble_eq_true rfl)) dX2_fewestMoves_1 ⟨Nat.le_of_ble_eq_true rfl, Nat.le_of_ble_eq_true rfl⟩) hS (fun E ce q9 H1 hE hz1 hk1 hS hce hcv hcl => ?_) (fun hp1 => ?_)
  · obtain ⟨rfl, hE⟩ := hE
    have hP := c_PX hP hk1
    exact vx_out (fun z hz => (hxt z hz).elim) hlocks hce hcv hcl (fun t ht hvm => ⟨⟨Or.inl ⟨rfl, k2_n1 hE⟩, by rw [ht]; exact ⟨_, _, _, hP⟩⟩, hS.F ht⟩) (fun z hz => hS.2.2 z hz) (Nat.le_of_ble_eq_true rfl) (Nat.le_of_ble_eq_true rfl)
  · show W _ _ _ _ _ _ _ _ _ _ _ _ _ _ _ (F0 m 4 ls [])
    refine lv_iload_n hx hb dX2_fewestMoves_4 rfl (lv_at hl 1 rfl) ?_
    have hPc := hP.sub (ws' := []) [] rfl
    have hDc : va_D (fun q : Nat => L0 ≤ q) [] := (hD.sub (ws' := []) [] (by decide) rfl).weaken (fun _ z9 _ h9 => hAL _ h9)
    have hKc := hK.sub (tys' := []) [] rfl
    refine c_callT (vx_runS (As := [.int u]) (rest := []) ⟨hx, hb, hml, hown, hts⟩ (k_requireLoad l hfl D L0 u) (va_cwS 1 hts gX2_fewestMoves_X2_requireLoad rfl rfl rfl (by decide +kernel) ⟨Nat.le_of_ble_eq_true rfl, Nat.le_of_ble_eq_true rfl⟩) ⟨cP_blind, cP_of hPc hKc hDc (kE_at hE0 hAL hS)⟩ rfl rfl hl.1 rfl (lv_room (Nat.le_of_ble_eq_true rfl)) dX2_fewestMoves_5 ⟨Nat.le_of_ble_eq_true rfl, Nat.le_of_ble_eq_true rfl⟩) hS (fun E ce q9 H1 hE hz1 hk1 hS hce hcv hcl => ?_) (fun hp2 => ?_)
    · obtain ⟨rfl, hE⟩ := hE
      have hP := c_PX hP hk1
      exact vx_out (fun z hz => (hxt z hz).elim) hlocks hce hcv hcl (fun t ht hvm => ⟨⟨Or.inr ⟨rfl, k2_n2 hp1 (fun q => hE q.1)⟩, by rw [ht]; exact ⟨_, _, _, hP⟩⟩, hS.F ht⟩) (fun z hz => hS.2.2 z hz) (Nat.le_of_ble_eq_true rfl) (Nat.le_of_ble_eq_true rfl)
    · show W _ _ _ _ _ _ _ _ _ _ _ _ _ _ _ (F0 m 8 ls [])
      refine lv_iload_n hx hb dX2_fewestMoves_8 rfl (lv_at hl 3 rfl) ?_
      have hPc := hP.sub (ws' := []) [] rfl
      have hDc : va_D (fun q : Nat => L0 ≤ q) [] := (hD.sub (ws' := []) [] (by decide) rfl).weaken (fun _ z9 _ h9 => hAL _ h9)
      have hKc := hK.sub (tys' := []) [] rfl
      refine c_callT (vx_runS (As := [.int z]) (rest := []) ⟨hx, hb, hml, hown, hts⟩ (k_requireReach l hfl D L0 z) (va_cwS 1 hts gX2_fewestMoves_X2_requireReach rfl rfl rfl (by decide +kernel) ⟨Nat.le_of_ble_eq_true rfl, Nat.le_of_ble_eq_true rfl⟩) ⟨cP_blind, cP_of hPc hKc hDc (kE_at hE0 hAL hS)⟩ rfl rfl hl.1 rfl (lv_room (Nat.le_of_ble_eq_true rfl)) dX2_fewestMoves_9 ⟨Nat.le_of_ble_eq_true rfl, Nat.le_of_ble_eq_true rfl⟩) hS (fun E ce q9 H1 hE hz1 hk1 hS hce hcv hcl => ?_) (fun hp3 => ?_)
      · obtain ⟨rfl, hE⟩ := hE
        have hP := c_PX hP hk1
        exact vx_out (fun z hz => (hxt z hz).elim) hlocks hce hcv hcl (fun t ht hvm => ⟨⟨Or.inr ⟨rfl, k2_n2 hp1 (fun q => hE q.2)⟩, by rw [ht]; exact ⟨_, _, _, hP⟩⟩, hS.F ht⟩) (fun z hz => hS.2.2 z hz) (Nat.le_of_ble_eq_true rfl) (Nat.le_of_ble_eq_true rfl)
      · show W _ _ _ _ _ _ _ _ _ _ _ _ _ _ _ (F0 m 12 ls [])
        have hk0 : k2 (inR v 0 7) (inR u 0 60 ∧ inR z 3 30) = 0 := k2_yes hp1 ⟨hp2, hp3⟩
        obtain ⟨kv, hkv, hv⟩ := inR_nI (n := 7) (by decide) hp1
        have hl : lv_has ls 4 [(0, .ref x), (1, .int u), (2, .int (nI kv)), (3, .int z)] := (show v = nI kv from hv) ▸ hl
        obtain ⟨kz, hkz, hz⟩ := inR_n3 (n := 30) (by decide) hp3
        have hl : lv_has ls 4 [(0, .ref x), (1, .int u), (2, .int (nI kv)), (3, .int (nI kz))] := (show z = nI kz from hz) ▸ hl
        have hvn : v.toNatClampNeg = kv := by rw [hv, nI_clamp (by omega)]
        have hzn : z.toNatClampNeg = kz := by rw [hz, nI_clamp (by omega)]
        refine lv_aload_n hx hb dX2_fewestMoves_12 rfl (lv_at hl 0 rfl) ?_
        refine va_get (D := D) (ci := 2) (v := .ref pn) (C := RX2) (T := TX2) (N := 9) hx hb hts hiX2 hown hK hP 0 rfl rfl 2 (by decide) (hts (.fieldLink RX2 22 "CraneReach" "plan" "LCraneReach$Plan;") (by decide +kernel)) (fun _ h9 => h9) rfl dX2_fewestMoves_13 ?_
        refine lv_aload_n hx hb dX2_fewestMoves_16 rfl (lv_at hl 0 rfl) ?_
        refine va_get (D := D) (ci := 2) (v := .ref rg) (C := RX2) (T := TX2) (N := 9) hx hb hts hiX2 hown hK hP 0 rfl rfl 0 (by decide) (hts (.fieldLink RX2 12 "CraneReach" "rig" "LCraneReach$Rig;") (by decide +kernel)) (fun _ h9 => h9) rfl dX2_fewestMoves_17 ?_
        refine lv_iload_n hx hb dX2_fewestMoves_20 rfl (lv_at hl 1 rfl) ?_
        refine lv_aload_n hx hb dX2_fewestMoves_21 rfl (lv_at hl 0 rfl) ?_
        refine va_get (D := D) (ci := 2) (v := .int (nI d)) (C := RX2) (T := TX2) (N := 9) hx hb hts hiX2 hown hK hP 0 rfl rfl 3 (by decide) (hts (.fieldLink RX2 98 "CraneReach" "direction" "I") (by decide +kernel)) (fun _ h9 => h9) rfl dX2_fewestMoves_22 ?_
        refine lv_aload_n hx hb dX2_fewestMoves_25 rfl (lv_at hl 0 rfl) ?_
        refine va_get (D := D) (ci := 2) (v := .int (nI r)) (C := RX2) (T := TX2) (N := 9) hx hb hts hiX2 hown hK hP 0 rfl rfl 4 (by decide) (hts (.fieldLink RX2 26 "CraneReach" "reach" "I") (by decide +kernel)) (fun _ h9 => h9) rfl dX2_fewestMoves_26 ?_
        have hPc := hP.sub (ws' := [(pn, .inr (0, [.ref pm, .ref pf, .int jn])), (pm, .inl (cI, 224, .inl jm)), (pf, .inl (cI, 224, .inl jf)), (rg, .inr (1, [.ref ro, .ref rl, .int pl])), (ro, .inl (cI, 4, .inl fo)), (rl, .inl (cI, 28, .inl (sh fl)))]) [4, 5, 6, 1, 2, 3] rfl
        have hDc : va_D (fun q : Nat => L0 ≤ q) [(pn, .inr (0, [.ref pm, .ref pf, .int jn])), (pm, .inl (cI, 224, .inl jm)), (pf, .inl (cI, 224, .inl jf)), (rg, .inr (1, [.ref ro, .ref rl, .int pl])), (ro, .inl (cI, 4, .inl fo)), (rl, .inl (cI, 28, .inl (sh fl)))] := (hD.sub (ws' := [(pn, .inr (0, [.ref pm, .ref pf, .int jn])), (pm, .inl (cI, 224, .inl jm)), (pf, .inl (cI, 224, .inl jf)), (rg, .inr (1, [.ref ro, .ref rl, .int pl])), (ro, .inl (cI, 4, .inl fo)), (rl, .inl (cI, 28, .inl (sh fl)))]) [4, 5, 6, 1, 2, 3] (by decide) rfl).weaken (fun _ z9 _ h9 => hAL _ h9)
        have hKc := hK.sub (tys' := [(cI, .int)]) [0] rfl
        refine c_callB (va_runV (As := [.ref rg, .int u, .int (nI d), .int (nI r)]) (rest := []) ⟨hx, hb, hml, hown, hts⟩ (k_spread l D L0 cI pn pm pf rg ro rl jn jm jf pl fo fl u d r hd hr) (cwV 4 hts gX2_fewestMoves_X0_spread rfl rfl rfl (by decide +kernel) ⟨Nat.le_of_ble_eq_true rfl, Nat.le_of_ble_eq_true rfl⟩) ⟨cP_blind, va_recv hKc hPc (ci := 0) (q0 := 0) rfl rfl, cP_of hPc hKc hDc (kE_at hE0 hAL hS)⟩ rfl rfl hl.1 rfl (lv_room (Nat.le_of_ble_eq_true rfl)) dX2_fewestMoves_29 ⟨Nat.le_of_ble_eq_true rfl, Nat.le_of_ble_eq_true rfl⟩) hS (fun z9 _ ⟨k9, e9, h9⟩ => (hD.sub (ws' := [(pn, .inr (0, [.ref pm, .ref pf, .int jn])), (pm, .inl (cI, 224, .inl jm)), (pf, .inl (cI, 224, .inl jf)), (rg, .inr (1, [.ref ro, .ref rl, .int pl])), (ro, .inl (cI, 4, .inl fo)), (rl, .inl (cI, 28, .inl (sh fl)))]) [4, 5, 6, 1, 2, 3] (by decide) rfl).2 k9 (z9, e9) h9) (fun z9 ⟨k9, e9, h9⟩ => (hD.sub (ws' := [(pn, .inr (0, [.ref pm, .ref pf, .int jn])), (pm, .inl (cI, 224, .inl jm)), (pf, .inl (cI, 224, .inl jf)), (rg, .inr (1, [.ref ro, .ref rl, .int pl])), (ro, .inl (cI, 4, .inl fo)), (rl, .inl (cI, 28, .inl (sh fl)))]) [4, 5, 6, 1, 2, 3] (by decide) rfl).2 k9 (z9, e9) h9) (fun H1 locs hB hz1 hk1 hS => ?_)
        obtain ⟨fm9, ff9, hC, hB⟩ := hB
        obtain ⟨hP, hD⟩ := c_join (ws' := [(x, .inr (2, [.ref rg, .ref tr, .ref pn, .int (nI d), .int (nI r), .int ld, .int li, .int tl, .int mo])), (rg, .inr (1, [.ref ro, .ref rl, .int pl])), (ro, .inl (cI, 4, .inl fo)), (rl, .inl (cI, 28, .inl (sh fl))), (pn, .inr (0, [.ref pm, .ref pf, .int (nI (goS (safS fo fl pl u) d r).2.2)])), (pm, .inl (cI, 224, .inl fm9)), (pf, .inl (cI, 224, .inl ff9))]) (wr := [(x, .inr (2, [.ref rg, .ref tr, .ref pn, .int (nI d), .int (nI r), .int ld, .int li, .int tl, .int mo]))]) (w1 := [(pn, .inr (0, [.ref pm, .ref pf, .int (nI (goS (safS fo fl pl u) d r).2.2)])), (pm, .inl (cI, 224, .inl fm9)), (pf, .inl (cI, 224, .inl ff9)), (rg, .inr (1, [.ref ro, .ref rl, .int pl])), (ro, .inl (cI, 4, .inl fo)), (rl, .inl (cI, 28, .inl (sh fl)))]) hP hD [4, 5, 6, 1, 2, 3] [0] [0, 4, 5, 6, 1, 2, 3] rfl rfl (by decide) (by decide) hk1 hB rfl rfl rfl (by decide)
        generalize H1 = H at hP hS ⊢
        show W _ _ _ _ _ _ _ _ _ _ _ _ _ _ _ (F0 m 32 ls [.int (nI (goS (safS fo fl pl u) d r).2.2)])
        refine lv_pop hx hb dX2_fewestMoves_32 rfl ?_
        refine lv_aload_n hx hb dX2_fewestMoves_33 rfl (lv_at hl 0 rfl) ?_
        refine va_get (D := D) (ci := 2) (v := .ref pn) (C := RX2) (T := TX2) (N := 9) hx hb hts hiX2 hown hK hP 0 rfl rfl 2 (by decide) (hts (.fieldLink RX2 22 "CraneReach" "plan" "LCraneReach$Plan;") (by decide +kernel)) (fun _ h9 => h9) rfl dX2_fewestMoves_34 ?_
        refine lv_iload_n hx hb dX2_fewestMoves_37 rfl (lv_at hl 2 rfl) ?_
        refine lv_iload_n hx hb dX2_fewestMoves_38 rfl (lv_at hl 3 rfl) ?_
        have hPc := hP.sub (ws' := [(pn, .inr (0, [.ref pm, .ref pf, .int (nI (goS (safS fo fl pl u) d r).2.2)])), (pm, .inl (cI, 224, .inl fm9)), (pf, .inl (cI, 224, .inl ff9))]) [4, 5, 6] rfl
        have hDc : va_D (fun q : Nat => L0 ≤ q) [(pn, .inr (0, [.ref pm, .ref pf, .int (nI (goS (safS fo fl pl u) d r).2.2)])), (pm, .inl (cI, 224, .inl fm9)), (pf, .inl (cI, 224, .inl ff9))] := (hD.sub (ws' := [(pn, .inr (0, [.ref pm, .ref pf, .int (nI (goS (safS fo fl pl u) d r).2.2)])), (pm, .inl (cI, 224, .inl fm9)), (pf, .inl (cI, 224, .inl ff9))]) [4, 5, 6] (by decide) rfl).weaken (fun _ z9 _ h9 => hAL _ h9)
        have hKc := hK.sub (tys' := [(cI, .int)]) [0] rfl
        refine c_callR (va_runV (As := [.int (nI kv), .int (nI kz)]) (rest := []) ⟨hx, hb, hml, hown, hts⟩ (k_movesTo l D L0 cI pn pm pf (nI (goS (safS fo fl pl u) d r).2.2) fm9 ff9 kv kz (by omega) hkz) (cwV 2 hts gX2_fewestMoves_X0_movesTo rfl rfl rfl (by decide +kernel) ⟨Nat.le_of_ble_eq_true rfl, Nat.le_of_ble_eq_true rfl⟩) ⟨cP_blind, va_recv hKc hPc (ci := 0) (q0 := 0) rfl rfl, cP_of hPc hKc hDc (kE_at hE0 hAL hS)⟩ rfl rfl hl.1 rfl (lv_room (Nat.le_of_ble_eq_true rfl)) dX2_fewestMoves_39 ⟨Nat.le_of_ble_eq_true rfl, Nat.le_of_ble_eq_true rfl⟩) ?_
        show W _ _ _ _ _ _ _ _ _ _ _ _ _ _ _ (F0 m 42 ls [.int (fm9 (plc kv kz))])
        refine c_top (show fm9 (plc kv kz) = (goS (safS fo fl pl u) d r).1 (8 * kz + kv) from hC.1 kv kz (by omega) hkz.1 hkz.2) ?_
        refine vx_ret ?_
        refine W.widen (k := 3) (n := 18) (Nat.le_of_ble_eq_true rfl) (Nat.le_of_ble_eq_true rfl) ?_
        exact W.iret (v := ((goS (safS fo fl pl u) d r).1 (8 * kz + kv))) hx hb hRt (fun t ht hW => ⟨⟨by rw [hvn, hzn], by rw [ht]; exact ⟨hk0, _, _, _, hP⟩⟩, hS.F ht⟩) hS.2.2 dX2_fewestMoves_42
set_option maxHeartbeats 4000000 in
set_option maxRecDepth 100000 in
/-- placesWithin(load) -/
theorem k_placesWithin (l : Launch) (hfl : l.stackTraces = false) (D : va_G) (L0 : Nat) (cI : ClassId) (x rg tr pn ro rl d r : Nat) (ld li tl mo pl : Int32) (fo fl : Nat → Int32) (pm pf : Nat) (jn : Int32) (jm jf : Nat → Int32) (u : Int32) (hd : d < 8) (hr : 3 ≤ r ∧ r ≤ 30) : vx_Met l yX2_placesWithin wsX2_placesWithin ({ frames := 7, cells := 1, slots := 6, locals := 148 }) (cP L0 D [(cI, .int)] [(x, .inr (2, [.ref rg, .ref tr, .ref pn, .int (nI d), .int (nI r), .int ld, .int li, .int tl, .int mo])), (rg, .inr (1, [.ref ro, .ref rl, .int pl])), (ro, .inl (cI, 4, .inl fo)), (rl, .inl (cI, 28, .inl (sh fl))), (pn, .inr (0, [.ref pm, .ref pf, .int jn])), (pm, .inl (cI, 224, .inl jm)), (pf, .inl (cI, 224, .inl jf))] [.ref x, .int u]) (cB (some (.int (nI (goS (safS fo fl pl u) d r).2.2))) (fun H => k1 (inR u 0 60) = 0 ∧ ∃ (n9 : Int32) (m9 f9 : Nat → Int32), va_P D vwCl [(x, .inr (2, [.ref rg, .ref tr, .ref pn, .int (nI d), .int (nI r), .int ld, .int li, .int tl, .int mo])), (rg, .inr (1, [.ref ro, .ref rl, .int pl])), (ro, .inl (cI, 4, .inl fo)), (rl, .inl (cI, 28, .inl (sh fl))), (pn, .inr (0, [.ref pm, .ref pf, .int n9])), (pm, .inl (cI, 224, .inl m9)), (pf, .inl (cI, 224, .inl f9))] H) (cA [(x, .inr (2, [.ref rg, .ref tr, .ref pn, .int (nI d), .int (nI r), .int ld, .int li, .int tl, .int mo])), (rg, .inr (1, [.ref ro, .ref rl, .int pl])), (ro, .inl (cI, 4, .inl fo)), (rl, .inl (cI, 28, .inl (sh fl))), (pn, .inr (0, [.ref pm, .ref pf, .int jn])), (pm, .inl (cI, 224, .inl jm)), (pf, .inl (cI, 224, .inl jf))])) (cX (fun E => E = xIAE ∧ k1 (inR u 0 60) = 1) (fun H => ∃ (n9 : Int32) (m9 f9 : Nat → Int32), va_P D vwCl [(x, .inr (2, [.ref rg, .ref tr, .ref pn, .int (nI d), .int (nI r), .int ld, .int li, .int tl, .int mo])), (rg, .inr (1, [.ref ro, .ref rl, .int pl])), (ro, .inl (cI, 4, .inl fo)), (rl, .inl (cI, 28, .inl (sh fl))), (pn, .inr (0, [.ref pm, .ref pf, .int n9])), (pm, .inl (cI, 224, .inl m9)), (pf, .inl (cI, 224, .inl f9))] H) (cA [(x, .inr (2, [.ref rg, .ref tr, .ref pn, .int (nI d), .int (nI r), .int ld, .int li, .int tl, .int mo])), (rg, .inr (1, [.ref ro, .ref rl, .int pl])), (ro, .inl (cI, 4, .inl fo)), (rl, .inl (cI, 28, .inl (sh fl))), (pn, .inr (0, [.ref pm, .ref pf, .int jn])), (pm, .inl (cI, 224, .inl jm)), (pf, .inl (cI, 224, .inl jf))])) 1 6 (cA [(x, .inr (2, [.ref rg, .ref tr, .ref pn, .int (nI d), .int (nI r), .int ld, .int li, .int tl, .int mo])), (rg, .inr (1, [.ref ro, .ref rl, .int pl])), (ro, .inl (cI, 4, .inl fo)), (rl, .inl (cI, 28, .inl (sh fl))), (pn, .inr (0, [.ref pm, .ref pf, .int jn])), (pm, .inl (cI, 224, .inl jm)), (pf, .inl (cI, 224, .inl jf))]) := by
  refine vx_ofW (cc := cX2_placesWithin) (maxL := 2) (ret := (some .int)) (by decide) rfl ?_
  intro p e s m args below meth c s₁ B hml hxt hv
  obtain ⟨rfl, hP, hK, hD0, hE0⟩ := hv
  have hx := B.exec
  have hb := B.bytes
  have hRt := B.returns
  have hts := atoms_spec (ws := wsX2_placesWithin) B.pre
  have hown : s.vm.findClass RX2 = some m.cls := findClass_of_methodNamed B.named
  have hlocks := B.notSynchronized
  have hAL : ∀ z9 : Nat, cA [(x, .inr (2, [.ref rg, .ref tr, .ref pn, .int (nI d), .int (nI r), .int ld, .int li, .int tl, .int mo])), (rg, .inr (1, [.ref ro, .ref rl, .int pl])), (ro, .inl (cI, 4, .inl fo)), (rl, .inl (cI, 28, .inl (sh fl))), (pn, .inr (0, [.ref pm, .ref pf, .int jn])), (pm, .inl (cI, 224, .inl jm)), (pf, .inl (cI, 224, .inl jf))] z9 → L0 ≤ z9 := fun z9 ⟨k9, e9, h9⟩ => hD0.2 k9 (z9, e9) h9
  have hD : va_D (cA [(x, .inr (2, [.ref rg, .ref tr, .ref pn, .int (nI d), .int (nI r), .int ld, .int li, .int tl, .int mo])), (rg, .inr (1, [.ref ro, .ref rl, .int pl])), (ro, .inl (cI, 4, .inl fo)), (rl, .inl (cI, 28, .inl (sh fl))), (pn, .inr (0, [.ref pm, .ref pf, .int jn])), (pm, .inl (cI, 224, .inl jm)), (pf, .inl (cI, 224, .inl jf))]) [(x, .inr (2, [.ref rg, .ref tr, .ref pn, .int (nI d), .int (nI r), .int ld, .int li, .int tl, .int mo])), (rg, .inr (1, [.ref ro, .ref rl, .int pl])), (ro, .inl (cI, 4, .inl fo)), (rl, .inl (cI, 28, .inl (sh fl))), (pn, .inr (0, [.ref pm, .ref pf, .int jn])), (pm, .inl (cI, 224, .inl jm)), (pf, .inl (cI, 224, .inl jf))] := ⟨hD0.1, fun k9 z9 h9 => cA_of h9⟩
  generalize hAe : cA [(x, .inr (2, [.ref rg, .ref tr, .ref pn, .int (nI d), .int (nI r), .int ld, .int li, .int tl, .int mo])), (rg, .inr (1, [.ref ro, .ref rl, .int pl])), (ro, .inl (cI, 4, .inl fo)), (rl, .inl (cI, 28, .inl (sh fl))), (pn, .inr (0, [.ref pm, .ref pf, .int jn])), (pm, .inl (cI, 224, .inl jm)), (pf, .inl (cI, 224, .inl jf))] = A at hD hAL ⊢
  have hS : va_S A s.heap s.heap [] := va_S.rf
  have hiX2 : ∀ w ∈ u_ws RX2 TX2 9, w ∈ wsX2_placesWithin := by decide +kernel
  have hl := lv_entry ([.ref x, .int u]) (n := 2) (Nat.le_of_ble_eq_true rfl)
  rw [lg_entry_eq]
  generalize (lg_sl ([.ref x, .int u]) ++ List.replicate (2 - (lg_sl ([.ref x, .int u])).length) Slot.unset).toArray = ls at hl ⊢
  have hl : lv_has ls 2 [(0, .ref x), (1, .int u)] := hl
  refine lv_iload_n hx hb dX2_placesWithin_0 rfl (lv_at hl 1 rfl) ?_
  have hPc := hP.sub (ws' := []) [] rfl
  have hDc : va_D (fun q : Nat => L0 ≤ q) [] := (hD.sub (ws' := []) [] (by decide) rfl).weaken (fun _ z9 _ h9 => hAL _ h9)
  have hKc := hK.sub (tys' := []) [] rfl
  refine c_callT (vx_runS (As := [.int u]) (rest := []) ⟨hx, hb, hml, hown, hts⟩ (k_requireLoad l hfl D L0 u) (va_cwS 1 hts gX2_placesWithin_X2_requireLoad rfl rfl rfl (by decide +kernel) ⟨Nat.le_of_ble_eq_true rfl, Nat.le_of_ble_eq_true rfl⟩) ⟨cP_blind, cP_of hPc hKc hDc (kE_at hE0 hAL hS)⟩ rfl rfl hl.1 rfl (lv_room (Nat.le_of_ble_eq_true rfl)) dX2_placesWithin_1 ⟨Nat.le_of_ble_eq_true rfl, Nat.le_of_ble_eq_true rfl⟩) hS (fun E ce q9 H1 hE hz1 hk1 hS hce hcv hcl => ?_) (fun hp1 => ?_)
  · obtain ⟨rfl, hE⟩ := hE
    have hP := c_PX hP hk1
    exact vx_out (fun z hz => (hxt z hz).elim) hlocks hce hcv hcl (fun t ht hvm => ⟨⟨⟨rfl, k1_no hE⟩, by rw [ht]; exact ⟨_, _, _, hP⟩⟩, hS.F ht⟩) (fun z hz => hS.2.2 z hz) (Nat.le_of_ble_eq_true rfl) (Nat.le_of_ble_eq_true rfl)
  · show W _ _ _ _ _ _ _ _ _ _ _ _ _ _ _ (F0 m 4 ls [])
    refine lv_aload_n hx hb dX2_placesWithin_4 rfl (lv_at hl 0 rfl) ?_
    refine va_get (D := D) (ci := 2) (v := .ref pn) (C := RX2) (T := TX2) (N := 9) hx hb hts hiX2 hown hK hP 0 rfl rfl 2 (by decide) (hts (.fieldLink RX2 22 "CraneReach" "plan" "LCraneReach$Plan;") (by decide +kernel)) (fun _ h9 => h9) rfl dX2_placesWithin_5 ?_
    refine lv_aload_n hx hb dX2_placesWithin_8 rfl (lv_at hl 0 rfl) ?_
    refine va_get (D := D) (ci := 2) (v := .ref rg) (C := RX2) (T := TX2) (N := 9) hx hb hts hiX2 hown hK hP 0 rfl rfl 0 (by decide) (hts (.fieldLink RX2 12 "CraneReach" "rig" "LCraneReach$Rig;") (by decide +kernel)) (fun _ h9 => h9) rfl dX2_placesWithin_9 ?_
    refine lv_iload_n hx hb dX2_placesWithin_12 rfl (lv_at hl 1 rfl) ?_
    refine lv_aload_n hx hb dX2_placesWithin_13 rfl (lv_at hl 0 rfl) ?_
    refine va_get (D := D) (ci := 2) (v := .int (nI d)) (C := RX2) (T := TX2) (N := 9) hx hb hts hiX2 hown hK hP 0 rfl rfl 3 (by decide) (hts (.fieldLink RX2 98 "CraneReach" "direction" "I") (by decide +kernel)) (fun _ h9 => h9) rfl dX2_placesWithin_14 ?_
    refine lv_aload_n hx hb dX2_placesWithin_17 rfl (lv_at hl 0 rfl) ?_
    refine va_get (D := D) (ci := 2) (v := .int (nI r)) (C := RX2) (T := TX2) (N := 9) hx hb hts hiX2 hown hK hP 0 rfl rfl 4 (by decide) (hts (.fieldLink RX2 26 "CraneReach" "reach" "I") (by decide +kernel)) (fun _ h9 => h9) rfl dX2_placesWithin_18 ?_
    have hPc := hP.sub (ws' := [(pn, .inr (0, [.ref pm, .ref pf, .int jn])), (pm, .inl (cI, 224, .inl jm)), (pf, .inl (cI, 224, .inl jf)), (rg, .inr (1, [.ref ro, .ref rl, .int pl])), (ro, .inl (cI, 4, .inl fo)), (rl, .inl (cI, 28, .inl (sh fl)))]) [4, 5, 6, 1, 2, 3] rfl
    have hDc : va_D (fun q : Nat => L0 ≤ q) [(pn, .inr (0, [.ref pm, .ref pf, .int jn])), (pm, .inl (cI, 224, .inl jm)), (pf, .inl (cI, 224, .inl jf)), (rg, .inr (1, [.ref ro, .ref rl, .int pl])), (ro, .inl (cI, 4, .inl fo)), (rl, .inl (cI, 28, .inl (sh fl)))] := (hD.sub (ws' := [(pn, .inr (0, [.ref pm, .ref pf, .int jn])), (pm, .inl (cI, 224, .inl jm)), (pf, .inl (cI, 224, .inl jf)), (rg, .inr (1, [.ref ro, .ref rl, .int pl])), (ro, .inl (cI, 4, .inl fo)), (rl, .inl (cI, 28, .inl (sh fl)))]) [4, 5, 6, 1, 2, 3] (by decide) rfl).weaken (fun _ z9 _ h9 => hAL _ h9)
    have hKc := hK.sub (tys' := [(cI, .int)]) [0] rfl
    refine c_callB (va_runV (As := [.ref rg, .int u, .int (nI d), .int (nI r)]) (rest := []) ⟨hx, hb, hml, hown, hts⟩ (k_spread l D L0 cI pn pm pf rg ro rl jn jm jf pl fo fl u d r hd hr) (cwV 4 hts gX2_placesWithin_X0_spread rfl rfl rfl (by decide +kernel) ⟨Nat.le_of_ble_eq_true rfl, Nat.le_of_ble_eq_true rfl⟩) ⟨cP_blind, va_recv hKc hPc (ci := 0) (q0 := 0) rfl rfl, cP_of hPc hKc hDc (kE_at hE0 hAL hS)⟩ rfl rfl hl.1 rfl (lv_room (Nat.le_of_ble_eq_true rfl)) dX2_placesWithin_21 ⟨Nat.le_of_ble_eq_true rfl, Nat.le_of_ble_eq_true rfl⟩) hS (fun z9 _ ⟨k9, e9, h9⟩ => (hD.sub (ws' := [(pn, .inr (0, [.ref pm, .ref pf, .int jn])), (pm, .inl (cI, 224, .inl jm)), (pf, .inl (cI, 224, .inl jf)), (rg, .inr (1, [.ref ro, .ref rl, .int pl])), (ro, .inl (cI, 4, .inl fo)), (rl, .inl (cI, 28, .inl (sh fl)))]) [4, 5, 6, 1, 2, 3] (by decide) rfl).2 k9 (z9, e9) h9) (fun z9 ⟨k9, e9, h9⟩ => (hD.sub (ws' := [(pn, .inr (0, [.ref pm, .ref pf, .int jn])), (pm, .inl (cI, 224, .inl jm)), (pf, .inl (cI, 224, .inl jf)), (rg, .inr (1, [.ref ro, .ref rl, .int pl])), (ro, .inl (cI, 4, .inl fo)), (rl, .inl (cI, 28, .inl (sh fl)))]) [4, 5, 6, 1, 2, 3] (by decide) rfl).2 k9 (z9, e9) h9) (fun H1 locs hB hz1 hk1 hS => ?_)
    obtain ⟨fm9, ff9, hC, hB⟩ := hB
    obtain ⟨hP, hD⟩ := c_join (ws' := [(x, .inr (2, [.ref rg, .ref tr, .ref pn, .int (nI d), .int (nI r), .int ld, .int li, .int tl, .int mo])), (rg, .inr (1, [.ref ro, .ref rl, .int pl])), (ro, .inl (cI, 4, .inl fo)), (rl, .inl (cI, 28, .inl (sh fl))), (pn, .inr (0, [.ref pm, .ref pf, .int (nI (goS (safS fo fl pl u) d r).2.2)])), (pm, .inl (cI, 224, .inl fm9)), (pf, .inl (cI, 224, .inl ff9))]) (wr := [(x, .inr (2, [.ref rg, .ref tr, .ref pn, .int (nI d), .int (nI r), .int ld, .int li, .int tl, .int mo]))]) (w1 := [(pn, .inr (0, [.ref pm, .ref pf, .int (nI (goS (safS fo fl pl u) d r).2.2)])), (pm, .inl (cI, 224, .inl fm9)), (pf, .inl (cI, 224, .inl ff9)), (rg, .inr (1, [.ref ro, .ref rl, .int pl])), (ro, .inl (cI, 4, .inl fo)), (rl, .inl (cI, 28, .inl (sh fl)))]) hP hD [4, 5, 6, 1, 2, 3] [0] [0, 4, 5, 6, 1, 2, 3] rfl rfl (by decide) (by decide) hk1 hB rfl rfl rfl (by decide)
    generalize H1 = H at hP hS ⊢
    show W _ _ _ _ _ _ _ _ _ _ _ _ _ _ _ (F0 m 24 ls [.int (nI (goS (safS fo fl pl u) d r).2.2)])
    refine vx_ret ?_
    refine W.widen (k := 1) (n := 6) (Nat.le_of_ble_eq_true rfl) (Nat.le_of_ble_eq_true rfl) ?_
    exact W.iret (v := (nI (goS (safS fo fl pl u) d r).2.2)) hx hb hRt (fun t ht hW => ⟨⟨rfl, by rw [ht]; exact ⟨k1_yes hp1, _, _, _, hP⟩⟩, hS.F ht⟩) hS.2.2 dX2_placesWithin_24
set_option maxHeartbeats 4000000 in
set_option maxRecDepth 100000 in
/-- bestOutrigger(load) -/
theorem k_bestOutrigger (l : Launch) (hfl : l.stackTraces = false) (D : va_G) (L0 : Nat) (cI : ClassId) (x rg tr pn ro rl d r : Nat) (ld li tl mo pl : Int32) (fo fl : Nat → Int32) (t0 t1 : Nat) (jp : Int32) (jo jl : Nat → Int32) (pm pf : Nat) (jn : Int32) (jm jf : Nat → Int32) (u : Int32) (hd : d < 8) (hr : 3 ≤ r ∧ r ≤ 30) : vx_Met l yX2_bestOutrigger wsX2_bestOutrigger ({ frames := 7, cells := 1, slots := 6, locals := 148 }) (cP L0 D [(cI, .int)] [(x, .inr (2, [.ref rg, .ref tr, .ref pn, .int (nI d), .int (nI r), .int ld, .int li, .int tl, .int mo])), (rg, .inr (1, [.ref ro, .ref rl, .int pl])), (ro, .inl (cI, 4, .inl fo)), (rl, .inl (cI, 28, .inl (sh fl))), (tr, .inr (1, [.ref t0, .ref t1, .int jp])), (t0, .inl (cI, 4, .inl jo)), (t1, .inl (cI, 28, .inl jl)), (pn, .inr (0, [.ref pm, .ref pf, .int jn])), (pm, .inl (cI, 224, .inl jm)), (pf, .inl (cI, 224, .inl jf))] [.ref x, .int u]) (cB (some (.int (boN (canS fo) (ownS fo fl pl u d r) 4).1)) (fun H => k1 (inR u 0 60) = 0 ∧ ∃ (p9 : Int32) (o9 l9 : Nat → Int32) (n9 : Int32) (m9 f9 : Nat → Int32), va_P D vwCl [(x, .inr (2, [.ref rg, .ref tr, .ref pn, .int (nI d), .int (nI r), .int ld, .int li, .int tl, .int mo])), (rg, .inr (1, [.ref ro, .ref rl, .int pl])), (ro, .inl (cI, 4, .inl fo)), (rl, .inl (cI, 28, .inl (sh fl))), (tr, .inr (1, [.ref t0, .ref t1, .int p9])), (t0, .inl (cI, 4, .inl o9)), (t1, .inl (cI, 28, .inl l9)), (pn, .inr (0, [.ref pm, .ref pf, .int n9])), (pm, .inl (cI, 224, .inl m9)), (pf, .inl (cI, 224, .inl f9))] H) (cA [(x, .inr (2, [.ref rg, .ref tr, .ref pn, .int (nI d), .int (nI r), .int ld, .int li, .int tl, .int mo])), (rg, .inr (1, [.ref ro, .ref rl, .int pl])), (ro, .inl (cI, 4, .inl fo)), (rl, .inl (cI, 28, .inl (sh fl))), (tr, .inr (1, [.ref t0, .ref t1, .int jp])), (t0, .inl (cI, 4, .inl jo)), (t1, .inl (cI, 28, .inl jl)), (pn, .inr (0, [.ref pm, .ref pf, .int jn])), (pm, .inl (cI, 224, .inl jm)), (pf, .inl (cI, 224, .inl jf))])) (cX (fun E => E = xIAE ∧ k1 (inR u 0 60) = 1) (fun H => ∃ (p9 : Int32) (o9 l9 : Nat → Int32) (n9 : Int32) (m9 f9 : Nat → Int32), va_P D vwCl [(x, .inr (2, [.ref rg, .ref tr, .ref pn, .int (nI d), .int (nI r), .int ld, .int li, .int tl, .int mo])), (rg, .inr (1, [.ref ro, .ref rl, .int pl])), (ro, .inl (cI, 4, .inl fo)), (rl, .inl (cI, 28, .inl (sh fl))), (tr, .inr (1, [.ref t0, .ref t1, .int p9])), (t0, .inl (cI, 4, .inl o9)), (t1, .inl (cI, 28, .inl l9)), (pn, .inr (0, [.ref pm, .ref pf, .int n9])), (pm, .inl (cI, 224, .inl m9)), (pf, .inl (cI, 224, .inl f9))] H) (cA [(x, .inr (2, [.ref rg, .ref tr, .ref pn, .int (nI d), .int (nI r), .int ld, .int li, .int tl, .int mo])), (rg, .inr (1, [.ref ro, .ref rl, .int pl])), (ro, .inl (cI, 4, .inl fo)), (rl, .inl (cI, 28, .inl (sh fl))), (tr, .inr (1, [.ref t0, .ref t1, .int jp])), (t0, .inl (cI, 4, .inl jo)), (t1, .inl (cI, 28, .inl jl)), (pn, .inr (0, [.ref pm, .ref pf, .int jn])), (pm, .inl (cI, 224, .inl jm)), (pf, .inl (cI, 224, .inl jf))])) 1 6 (cA [(x, .inr (2, [.ref rg, .ref tr, .ref pn, .int (nI d), .int (nI r), .int ld, .int li, .int tl, .int mo])), (rg, .inr (1, [.ref ro, .ref rl, .int pl])), (ro, .inl (cI, 4, .inl fo)), (rl, .inl (cI, 28, .inl (sh fl))), (tr, .inr (1, [.ref t0, .ref t1, .int jp])), (t0, .inl (cI, 4, .inl jo)), (t1, .inl (cI, 28, .inl jl)), (pn, .inr (0, [.ref pm, .ref pf, .int jn])), (pm, .inl (cI, 224, .inl jm)), (pf, .inl (cI, 224, .inl jf))]) := by
  refine vx_ofW (cc := cX2_bestOutrigger) (maxL := 7) (ret := (some .int)) (by decide) rfl ?_
  intro p e s m args below meth c s₁ B hml hxt hv
  obtain ⟨rfl, hP, hK, hD0, hE0⟩ := hv
  have hx := B.exec
  have hb := B.bytes
  have hRt := B.returns
  have hts := atoms_spec (ws := wsX2_bestOutrigger) B.pre
  have hown : s.vm.findClass RX2 = some m.cls := findClass_of_methodNamed B.named
  have hlocks := B.notSynchronized
  have hAL : ∀ z9 : Nat, cA [(x, .inr (2, [.ref rg, .ref tr, .ref pn, .int (nI d), .int (nI r), .int ld, .int li, .int tl, .int mo])), (rg, .inr (1, [.ref ro, .ref rl, .int pl])), (ro, .inl (cI, 4, .inl fo)), (rl, .inl (cI, 28, .inl (sh fl))), (tr, .inr (1, [.ref t0, .ref t1, .int jp])), (t0, .inl (cI, 4, .inl jo)), (t1, .inl (cI, 28, .inl jl)), (pn, .inr (0, [.ref pm, .ref pf, .int jn])), (pm, .inl (cI, 224, .inl jm)), (pf, .inl (cI, 224, .inl jf))] z9 → L0 ≤ z9 := fun z9 ⟨k9, e9, h9⟩ => hD0.2 k9 (z9, e9) h9
  have hD : va_D (cA [(x, .inr (2, [.ref rg, .ref tr, .ref pn, .int (nI d), .int (nI r), .int ld, .int li, .int tl, .int mo])), (rg, .inr (1, [.ref ro, .ref rl, .int pl])), (ro, .inl (cI, 4, .inl fo)), (rl, .inl (cI, 28, .inl (sh fl))), (tr, .inr (1, [.ref t0, .ref t1, .int jp])), (t0, .inl (cI, 4, .inl jo)), (t1, .inl (cI, 28, .inl jl)), (pn, .inr (0, [.ref pm, .ref pf, .int jn])), (pm, .inl (cI, 224, .inl jm)), (pf, .inl (cI, 224, .inl jf))]) [(x, .inr (2, [.ref rg, .ref tr, .ref pn, .int (nI d), .int (nI r), .int ld, .int li, .int tl, .int mo])), (rg, .inr (1, [.ref ro, .ref rl, .int pl])), (ro, .inl (cI, 4, .inl fo)), (rl, .inl (cI, 28, .inl (sh fl))), (tr, .inr (1, [.ref t0, .ref t1, .int jp])), (t0, .inl (cI, 4, .inl jo)), (t1, .inl (cI, 28, .inl jl)), (pn, .inr (0, [.ref pm, .ref pf, .int jn])), (pm, .inl (cI, 224, .inl jm)), (pf, .inl (cI, 224, .inl jf))] := ⟨hD0.1, fun k9 z9 h9 => cA_of h9⟩
  generalize hAe : cA [(x, .inr (2, [.ref rg, .ref tr, .ref pn, .int (nI d), .int (nI r), .int ld, .int li, .int tl, .int mo])), (rg, .inr (1, [.ref ro, .ref rl, .int pl])), (ro, .inl (cI, 4, .inl fo)), (rl, .inl (cI, 28, .inl (sh fl))), (tr, .inr (1, [.ref t0, .ref t1, .int jp])), (t0, .inl (cI, 4, .inl jo)), (t1, .inl (cI, 28, .inl jl)), (pn, .inr (0, [.ref pm, .ref pf, .int jn])), (pm, .inl (cI, 224, .inl jm)), (pf, .inl (cI, 224, .inl jf))] = A at hD hAL ⊢
  have hS : va_S A s.heap s.heap [] := va_S.rf
  have hiX2 : ∀ w ∈ u_ws RX2 TX2 9, w ∈ wsX2_bestOutrigger := by decide +kernel
  have hl := lv_entry ([.ref x, .int u]) (n := 7) (Nat.le_of_ble_eq_true rfl)
  rw [lg_entry_eq]
  generalize (lg_sl ([.ref x, .int u]) ++ List.replicate (7 - (lg_sl ([.ref x, .int u])).length) Slot.unset).toArray = ls at hl ⊢
  have hl : lv_has ls 7 [(0, .ref x), (1, .int u)] := hl
  refine lv_iload_n hx hb dX2_bestOutrigger_0 rfl (lv_at hl 1 rfl) ?_
  have hPc := hP.sub (ws' := []) [] rfl
  have hDc : va_D (fun q : Nat => L0 ≤ q) [] := (hD.sub (ws' := []) [] (by decide) rfl).weaken (fun _ z9 _ h9 => hAL _ h9)
  have hKc := hK.sub (tys' := []) [] rfl
  refine c_callT (vx_runS (As := [.int u]) (rest := []) ⟨hx, hb, hml, hown, hts⟩ (k_requireLoad l hfl D L0 u) (va_cwS 1 hts gX2_bestOutrigger_X2_requireLoad rfl rfl rfl (by decide +kernel) ⟨Nat.le_of_ble_eq_true rfl, Nat.le_of_ble_eq_true rfl⟩) ⟨cP_blind, cP_of hPc hKc hDc (kE_at hE0 hAL hS)⟩ rfl rfl hl.1 rfl (lv_room (Nat.le_of_ble_eq_true rfl)) dX2_bestOutrigger_1 ⟨Nat.le_of_ble_eq_true rfl, Nat.le_of_ble_eq_true rfl⟩) hS (fun E ce q9 H1 hE hz1 hk1 hS hce hcv hcl => ?_) (fun hp1 => ?_)
  · obtain ⟨rfl, hE⟩ := hE
    have hP := c_PX hP hk1
    exact vx_out (fun z hz => (hxt z hz).elim) hlocks hce hcv hcl (fun t ht hvm => ⟨⟨⟨rfl, k1_no hE⟩, by rw [ht]; exact ⟨_, _, _, _, _, _, hP⟩⟩, hS.F ht⟩) (fun z hz => hS.2.2 z hz) (Nat.le_of_ble_eq_true rfl) (Nat.le_of_ble_eq_true rfl)
  · show W _ _ _ _ _ _ _ _ _ _ _ _ _ _ _ (F0 m 4 ls [])
    have loop : ∀ (n : Nat) (k : Nat) (tp : Int32) (ta : Nat → Int32) (tb : Nat → Int32) (qn : Int32) (qm : Nat → Int32) (qf : Nat → Int32) (H : Heap) (locs : List Loc) (ls : Array Slot), k + n = 4 → lv_has ls 7 [(4, .int (nI k)), (2, .int ((boN (canS fo) (ownS fo fl pl u d r) k).1)), (3, .int ((boN (canS fo) (ownS fo fl pl u d r) k).2)), (0, .ref x), (1, .int u)] → va_P D vwCl [(x, .inr (2, [.ref rg, .ref tr, .ref pn, .int (nI d), .int (nI r), .int ld, .int li, .int tl, .int mo])), (rg, .inr (1, [.ref ro, .ref rl, .int pl])), (ro, .inl (cI, 4, .inl fo)), (rl, .inl (cI, 28, .inl (sh fl))), (tr, .inr (1, [.ref t0, .ref t1, .int tp])), (t0, .inl (cI, 4, .inl ta)), (t1, .inl (cI, 28, .inl tb)), (pn, .inr (0, [.ref pm, .ref pf, .int qn])), (pm, .inl (cI, 224, .inl qm)), (pf, .inl (cI, 224, .inl qf))] H → va_D A [(x, .inr (2, [.ref rg, .ref tr, .ref pn, .int (nI d), .int (nI r), .int ld, .int li, .int tl, .int mo])), (rg, .inr (1, [.ref ro, .ref rl, .int pl])), (ro, .inl (cI, 4, .inl fo)), (rl, .inl (cI, 28, .inl (sh fl))), (tr, .inr (1, [.ref t0, .ref t1, .int tp])), (t0, .inl (cI, 4, .inl ta)), (t1, .inl (cI, 28, .inl tb)), (pn, .inr (0, [.ref pm, .ref pf, .int qn])), (pm, .inl (cI, 224, .inl qm)), (pf, .inl (cI, 224, .inl qf))] → va_S A s.heap H locs → W p l e (headSpec wsX2_bestOutrigger ({ frames := 7, cells := 1, slots := 6, locals := 148 })).room s m ([.ref x, .int u]).toArray below meth c H locs (0 + 1) (0 + 6) (vx_MQ below (cB (some (.int (boN (canS fo) (ownS fo fl pl u d r) 4).1)) (fun H => k1 (inR u 0 60) = 0 ∧ ∃ (p9 : Int32) (o9 l9 : Nat → Int32) (n9 : Int32) (m9 f9 : Nat → Int32), va_P D vwCl [(x, .inr (2, [.ref rg, .ref tr, .ref pn, .int (nI d), .int (nI r), .int ld, .int li, .int tl, .int mo])), (rg, .inr (1, [.ref ro, .ref rl, .int pl])), (ro, .inl (cI, 4, .inl fo)), (rl, .inl (cI, 28, .inl (sh fl))), (tr, .inr (1, [.ref t0, .ref t1, .int p9])), (t0, .inl (cI, 4, .inl o9)), (t1, .inl (cI, 28, .inl l9)), (pn, .inr (0, [.ref pm, .ref pf, .int n9])), (pm, .inl (cI, 224, .inl m9)), (pf, .inl (cI, 224, .inl f9))] H) A) (cX (fun E => E = xIAE ∧ k1 (inR u 0 60) = 1) (fun H => ∃ (p9 : Int32) (o9 l9 : Nat → Int32) (n9 : Int32) (m9 f9 : Nat → Int32), va_P D vwCl [(x, .inr (2, [.ref rg, .ref tr, .ref pn, .int (nI d), .int (nI r), .int ld, .int li, .int tl, .int mo])), (rg, .inr (1, [.ref ro, .ref rl, .int pl])), (ro, .inl (cI, 4, .inl fo)), (rl, .inl (cI, 28, .inl (sh fl))), (tr, .inr (1, [.ref t0, .ref t1, .int p9])), (t0, .inl (cI, 4, .inl o9)), (t1, .inl (cI, 28, .inl l9)), (pn, .inr (0, [.ref pm, .ref pf, .int n9])), (pm, .inl (cI, 224, .inl m9)), (pf, .inl (cI, 224, .inl f9))] H) A) ([.ref x, .int u]).toArray s 1 6 A) (F0 m 11 ls []) := by
      intro n
      induction n with
      | zero =>
        intro k tp ta tb qn qm qf H locs ls hn hl hP hD hS
        have hi : k = 4 := by omega
        rw [hi] at hl
        refine lv_iload hx hb dX2_bestOutrigger_11 (lv_at hl 0 rfl) ?_
        refine lv_iconst (v := 4) hx hb dX2_bestOutrigger_13 (by decide) ?_
        refine lv_icmp_ge (tgt := 99) hx hb dX2_bestOutrigger_14 (by decide) (fun _ => ?_) (fun c_58 => absurd (by decide) c_58)
        refine lv_iload_n hx hb dX2_bestOutrigger_99 rfl (lv_at hl 1 rfl) ?_
        refine vx_ret ?_
        refine W.widen (k := 1) (n := 6) (Nat.le_of_ble_eq_true rfl) (Nat.le_of_ble_eq_true rfl) ?_
        exact W.iret (v := ((boN (canS fo) (ownS fo fl pl u d r) 4).1)) hx hb hRt (fun t ht hW => ⟨⟨rfl, by rw [ht]; exact ⟨k1_yes hp1, _, _, _, _, _, _, hP⟩⟩, hS.F ht⟩) hS.2.2 dX2_bestOutrigger_100
      | succ n ih =>
        intro k tp ta tb qn qm qf H locs ls hn hl hP hD hS
        refine lv_iload hx hb dX2_bestOutrigger_11 (lv_at hl 0 rfl) ?_
        refine lv_iconst (v := 4) hx hb dX2_bestOutrigger_13 (by decide) ?_
        refine lv_icmp_ge (tgt := 99) hx hb dX2_bestOutrigger_14 (by decide) (fun c_59 => absurd c_59 (nI_ge (b := 4) (by omega) (by decide))) (fun _ => ?_)
        refine lv_aload_n hx hb dX2_bestOutrigger_17 rfl (lv_at hl 3 rfl) ?_
        refine va_get (D := D) (ci := 2) (v := .ref rg) (C := RX2) (T := TX2) (N := 9) hx hb hts hiX2 hown hK hP 0 rfl rfl 0 (by decide) (hts (.fieldLink RX2 12 "CraneReach" "rig" "LCraneReach$Rig;") (by decide +kernel)) (fun _ h9 => h9) rfl dX2_bestOutrigger_18 ?_
        refine lv_iload hx hb dX2_bestOutrigger_21 (lv_at hl 0 rfl) ?_
        have hPc := hP.sub (ws' := [(rg, .inr (1, [.ref ro, .ref rl, .int pl])), (ro, .inl (cI, 4, .inl fo)), (rl, .inl (cI, 28, .inl (sh fl)))]) [1, 2, 3] rfl
        have hDc : va_D (fun q : Nat => L0 ≤ q) [(rg, .inr (1, [.ref ro, .ref rl, .int pl])), (ro, .inl (cI, 4, .inl fo)), (rl, .inl (cI, 28, .inl (sh fl)))] := (hD.sub (ws' := [(rg, .inr (1, [.ref ro, .ref rl, .int pl])), (ro, .inl (cI, 4, .inl fo)), (rl, .inl (cI, 28, .inl (sh fl)))]) [1, 2, 3] (by decide) rfl).weaken (fun _ z9 _ h9 => hAL _ h9)
        have hKc := hK.sub (tys' := [(cI, .int)]) [0] rfl
        refine c_callR (va_runV (As := [.int (nI k)]) (rest := []) ⟨hx, hb, hml, hown, hts⟩ (k_drawn l D L0 cI rg ro rl pl fo (sh fl) k (by omega)) (cwV 1 hts gX2_bestOutrigger_X1_drawn rfl rfl rfl (by decide +kernel) ⟨Nat.le_of_ble_eq_true rfl, Nat.le_of_ble_eq_true rfl⟩) ⟨cP_blind, va_recv hKc hPc (ci := 1) (q0 := 0) rfl rfl, cP_of hPc hKc hDc (kE_at hE0 hAL hS)⟩ rfl rfl hl.1 rfl (lv_room (Nat.le_of_ble_eq_true rfl)) dX2_bestOutrigger_23 ⟨Nat.le_of_ble_eq_true rfl, Nat.le_of_ble_eq_true rfl⟩) ?_
        show W _ _ _ _ _ _ _ _ _ _ _ _ _ _ _ (F0 m 26 ls [.int (fo k)])
        refine lv_istore (lv' := [(5, .int (fo k)), (4, .int (nI k)), (2, .int ((boN (canS fo) (ownS fo fl pl u d r) k).1)), (3, .int ((boN (canS fo) (ownS fo fl pl u d r) k).2)), (0, .ref x), (1, .int u)]) hx hb dX2_bestOutrigger_26 hl (by decide) rfl (fun ls hl => ?_)
        refine lv_iload hx hb dX2_bestOutrigger_28 (lv_at hl 0 rfl) ?_
        refine lv_bipush (v := 6) hx hb dX2_bestOutrigger_30 (by decide) ?_
        refine lv_icmp_ge (tgt := 93) hx hb dX2_bestOutrigger_32 (by decide) (fun c_60 => ?_) (fun c_60 => ?_)
        · have e : boN (canS fo) (ownS fo fl pl u d r) (k + 1) = boN (canS fo) (ownS fo fl pl u d r) k := by rw [boN, if_neg (show ¬ canS fo k = true from fun z => absurd (of_decide_eq_true z) (i_len c_60))]
          refine lv_iinc (v := (nI k) + 1) (lv' := [(4, .int ((nI k) + 1)), (5, .int (fo k)), (2, .int ((boN (canS fo) (ownS fo fl pl u d r) k).1)), (3, .int ((boN (canS fo) (ownS fo fl pl u d r) k).2)), (0, .ref x), (1, .int u)]) hx hb dX2_bestOutrigger_93 hl (k := 1) rfl rfl (by decide) rfl (fun ls hl => ?_)
          refine lv_goto (tgt := 11) hx hb dX2_bestOutrigger_96 (by decide) ?_
          have hl : lv_has ls 7 [(4, .int (nI (k + 1))), (5, .int (fo k)), (2, .int ((boN (canS fo) (ownS fo fl pl u d r) k).1)), (3, .int ((boN (canS fo) (ownS fo fl pl u d r) k).2)), (0, .ref x), (1, .int u)] := (show (nI k) + 1 = nI (k + 1) from nI_1 k) ▸ hl
          have hl : lv_has ls 7 [(4, .int (nI (k + 1))), (5, .int (fo k)), (2, .int ((boN (canS fo) (ownS fo fl pl u d r) (k + 1)).1)), (3, .int ((boN (canS fo) (ownS fo fl pl u d r) k).2)), (0, .ref x), (1, .int u)] := (show (boN (canS fo) (ownS fo fl pl u d r) k).1 = (boN (canS fo) (ownS fo fl pl u d r) (k + 1)).1 from by rw [e]) ▸ hl
          have hl : lv_has ls 7 [(4, .int (nI (k + 1))), (5, .int (fo k)), (2, .int ((boN (canS fo) (ownS fo fl pl u d r) (k + 1)).1)), (3, .int ((boN (canS fo) (ownS fo fl pl u d r) (k + 1)).2)), (0, .ref x), (1, .int u)] := (show (boN (canS fo) (ownS fo fl pl u d r) k).2 = (boN (canS fo) (ownS fo fl pl u d r) (k + 1)).2 from by rw [e]) ▸ hl
          exact ih (k + 1) _ _ _ _ _ _ _ _ _ (by omega) (lv_sub hl [0, 2, 3, 4, 5] rfl) hP hD hS
        · have hcan : canS fo k = true := decide_eq_true (i_nle c_60)
          refine lv_aload_n hx hb dX2_bestOutrigger_35 rfl (lv_at hl 4 rfl) ?_
          refine va_get (D := D) (ci := 2) (v := .ref tr) (C := RX2) (T := TX2) (N := 9) hx hb hts hiX2 hown hK hP 0 rfl rfl 1 (by decide) (hts (.fieldLink RX2 16 "CraneReach" "trial" "LCraneReach$Rig;") (by decide +kernel)) (fun _ h9 => h9) rfl dX2_bestOutrigger_36 ?_
          refine lv_aload_n hx hb dX2_bestOutrigger_39 rfl (lv_at hl 4 rfl) ?_
          refine va_get (D := D) (ci := 2) (v := .ref rg) (C := RX2) (T := TX2) (N := 9) hx hb hts hiX2 hown hK hP 0 rfl rfl 0 (by decide) (hts (.fieldLink RX2 12 "CraneReach" "rig" "LCraneReach$Rig;") (by decide +kernel)) (fun _ h9 => h9) rfl dX2_bestOutrigger_40 ?_
          have hPc := hP.sub (ws' := [(tr, .inr (1, [.ref t0, .ref t1, .int tp])), (t0, .inl (cI, 4, .inl ta)), (t1, .inl (cI, 28, .inl tb)), (rg, .inr (1, [.ref ro, .ref rl, .int pl])), (ro, .inl (cI, 4, .inl fo)), (rl, .inl (cI, 28, .inl (sh fl)))]) [4, 5, 6, 1, 2, 3] rfl
          have hDc : va_D (fun q : Nat => L0 ≤ q) [(tr, .inr (1, [.ref t0, .ref t1, .int tp])), (t0, .inl (cI, 4, .inl ta)), (t1, .inl (cI, 28, .inl tb)), (rg, .inr (1, [.ref ro, .ref rl, .int pl])), (ro, .inl (cI, 4, .inl fo)), (rl, .inl (cI, 28, .inl (sh fl)))] := (hD.sub (ws' := [(tr, .inr (1, [.ref t0, .ref t1, .int tp])), (t0, .inl (cI, 4, .inl ta)), (t1, .inl (cI, 28, .inl tb)), (rg, .inr (1, [.ref ro, .ref rl, .int pl])), (ro, .inl (cI, 4, .inl fo)), (rl, .inl (cI, 28, .inl (sh fl)))]) [4, 5, 6, 1, 2, 3] (by decide) rfl).weaken (fun _ z9 _ h9 => hAL _ h9)
          have hKc := hK.sub (tys' := [(cI, .int)]) [0] rfl
          refine c_callB (va_runV (As := [.ref rg]) (rest := []) ⟨hx, hb, hml, hown, hts⟩ (k_becomeLike l D L0 cI tr t0 t1 tp ta tb rg ro rl pl fo fl) (cwV 1 hts gX2_bestOutrigger_X1_becomeLike rfl rfl rfl (by decide +kernel) ⟨Nat.le_of_ble_eq_true rfl, Nat.le_of_ble_eq_true rfl⟩) ⟨cP_blind, va_recv hKc hPc (ci := 1) (q0 := 0) rfl rfl, cP_of hPc hKc hDc (kE_at hE0 hAL hS)⟩ rfl rfl hl.1 rfl (lv_room (Nat.le_of_ble_eq_true rfl)) dX2_bestOutrigger_43 ⟨Nat.le_of_ble_eq_true rfl, Nat.le_of_ble_eq_true rfl⟩) hS (fun z9 _ ⟨k9, e9, h9⟩ => (hD.sub (ws' := [(tr, .inr (1, [.ref t0, .ref t1, .int tp])), (t0, .inl (cI, 4, .inl ta)), (t1, .inl (cI, 28, .inl tb)), (rg, .inr (1, [.ref ro, .ref rl, .int pl])), (ro, .inl (cI, 4, .inl fo)), (rl, .inl (cI, 28, .inl (sh fl)))]) [4, 5, 6, 1, 2, 3] (by decide) rfl).2 k9 (z9, e9) h9) (fun z9 ⟨k9, e9, h9⟩ => (hD.sub (ws' := [(tr, .inr (1, [.ref t0, .ref t1, .int tp])), (t0, .inl (cI, 4, .inl ta)), (t1, .inl (cI, 28, .inl tb)), (rg, .inr (1, [.ref ro, .ref rl, .int pl])), (ro, .inl (cI, 4, .inl fo)), (rl, .inl (cI, 28, .inl (sh fl)))]) [4, 5, 6, 1, 2, 3] (by decide) rfl).2 k9 (z9, e9) h9) (fun H1 locs hB hz1 hk1 hS => ?_)
          obtain ⟨hP, hD⟩ := c_join (ws' := [(x, .inr (2, [.ref rg, .ref tr, .ref pn, .int (nI d), .int (nI r), .int ld, .int li, .int tl, .int mo])), (rg, .inr (1, [.ref ro, .ref rl, .int pl])), (ro, .inl (cI, 4, .inl fo)), (rl, .inl (cI, 28, .inl (sh fl))), (tr, .inr (1, [.ref t0, .ref t1, .int pl])), (t0, .inl (cI, 4, .inl fo)), (t1, .inl (cI, 28, .inl (sh fl))), (pn, .inr (0, [.ref pm, .ref pf, .int qn])), (pm, .inl (cI, 224, .inl qm)), (pf, .inl (cI, 224, .inl qf))]) (wr := [(x, .inr (2, [.ref rg, .ref tr, .ref pn, .int (nI d), .int (nI r), .int ld, .int li, .int tl, .int mo])), (pn, .inr (0, [.ref pm, .ref pf, .int qn])), (pm, .inl (cI, 224, .inl qm)), (pf, .inl (cI, 224, .inl qf))]) (w1 := [(tr, .inr (1, [.ref t0, .ref t1, .int pl])), (t0, .inl (cI, 4, .inl fo)), (t1, .inl (cI, 28, .inl (sh fl))), (rg, .inr (1, [.ref ro, .ref rl, .int pl])), (ro, .inl (cI, 4, .inl fo)), (rl, .inl (cI, 28, .inl (sh fl)))]) hP hD [4, 5, 6, 1, 2, 3] [0, 7, 8, 9] [0, 7, 8, 9, 4, 5, 6, 1, 2, 3] rfl rfl (by decide) (by decide) hk1 hB rfl rfl rfl (by decide)
          generalize H1 = H at hP hS ⊢
          show W _ _ _ _ _ _ _ _ _ _ _ _ _ _ _ (F0 m 46 ls [])
          refine lv_aload_n hx hb dX2_bestOutrigger_46 rfl (lv_at hl 4 rfl) ?_
          refine va_get (D := D) (ci := 2) (v := .ref tr) (C := RX2) (T := TX2) (N := 9) hx hb hts hiX2 hown hK hP 0 rfl rfl 1 (by decide) (hts (.fieldLink RX2 16 "CraneReach" "trial" "LCraneReach$Rig;") (by decide +kernel)) (fun _ h9 => h9) rfl dX2_bestOutrigger_47 ?_
          refine lv_iload hx hb dX2_bestOutrigger_50 (lv_at hl 1 rfl) ?_
          refine lv_iload hx hb dX2_bestOutrigger_52 (lv_at hl 0 rfl) ?_
          refine lv_iconst (v := 1) hx hb dX2_bestOutrigger_54 (by decide) ?_
          refine lv_iadd hx hb dX2_bestOutrigger_55 ?_
          have hPc := hP.sub (ws' := [(tr, .inr (1, [.ref t0, .ref t1, .int pl])), (t0, .inl (cI, 4, .inl fo)), (t1, .inl (cI, 28, .inl (sh fl)))]) [4, 5, 6] rfl
          have hDc : va_D (fun q : Nat => L0 ≤ q) [(tr, .inr (1, [.ref t0, .ref t1, .int pl])), (t0, .inl (cI, 4, .inl fo)), (t1, .inl (cI, 28, .inl (sh fl)))] := (hD.sub (ws' := [(tr, .inr (1, [.ref t0, .ref t1, .int pl])), (t0, .inl (cI, 4, .inl fo)), (t1, .inl (cI, 28, .inl (sh fl)))]) [4, 5, 6] (by decide) rfl).weaken (fun _ z9 _ h9 => hAL _ h9)
          have hKc := hK.sub (tys' := [(cI, .int)]) [0] rfl
          refine c_callB (va_runV (As := [.int (nI k), .int ((fo k) + 1)]) (rest := []) ⟨hx, hb, hml, hown, hts⟩ (k_draw l D L0 cI tr t0 t1 pl fo (sh fl) k (fo k + 1) (by omega)) (cwV 2 hts gX2_bestOutrigger_X1_draw rfl rfl rfl (by decide +kernel) ⟨Nat.le_of_ble_eq_true rfl, Nat.le_of_ble_eq_true rfl⟩) ⟨cP_blind, va_recv hKc hPc (ci := 1) (q0 := 0) rfl rfl, cP_of hPc hKc hDc (kE_at hE0 hAL hS)⟩ rfl rfl hl.1 rfl (lv_room (Nat.le_of_ble_eq_true rfl)) dX2_bestOutrigger_56 ⟨Nat.le_of_ble_eq_true rfl, Nat.le_of_ble_eq_true rfl⟩) hS (fun z9 _ ⟨k9, e9, h9⟩ => (hD.sub (ws' := [(tr, .inr (1, [.ref t0, .ref t1, .int pl])), (t0, .inl (cI, 4, .inl fo)), (t1, .inl (cI, 28, .inl (sh fl)))]) [4, 5, 6] (by decide) rfl).2 k9 (z9, e9) h9) (fun z9 ⟨k9, e9, h9⟩ => (hD.sub (ws' := [(tr, .inr (1, [.ref t0, .ref t1, .int pl])), (t0, .inl (cI, 4, .inl fo)), (t1, .inl (cI, 28, .inl (sh fl)))]) [4, 5, 6] (by decide) rfl).2 k9 (z9, e9) h9) (fun H1 locs hB hz1 hk1 hS => ?_)
          obtain ⟨hP, hD⟩ := c_join (ws' := [(x, .inr (2, [.ref rg, .ref tr, .ref pn, .int (nI d), .int (nI r), .int ld, .int li, .int tl, .int mo])), (rg, .inr (1, [.ref ro, .ref rl, .int pl])), (ro, .inl (cI, 4, .inl fo)), (rl, .inl (cI, 28, .inl (sh fl))), (tr, .inr (1, [.ref t0, .ref t1, .int pl])), (t0, .inl (cI, 4, .inl (upd fo k (fo k + 1)))), (t1, .inl (cI, 28, .inl (sh fl))), (pn, .inr (0, [.ref pm, .ref pf, .int qn])), (pm, .inl (cI, 224, .inl qm)), (pf, .inl (cI, 224, .inl qf))]) (wr := [(x, .inr (2, [.ref rg, .ref tr, .ref pn, .int (nI d), .int (nI r), .int ld, .int li, .int tl, .int mo])), (rg, .inr (1, [.ref ro, .ref rl, .int pl])), (ro, .inl (cI, 4, .inl fo)), (rl, .inl (cI, 28, .inl (sh fl))), (pn, .inr (0, [.ref pm, .ref pf, .int qn])), (pm, .inl (cI, 224, .inl qm)), (pf, .inl (cI, 224, .inl qf))]) (w1 := [(tr, .inr (1, [.ref t0, .ref t1, .int pl])), (t0, .inl (cI, 4, .inl (upd fo k (fo k + 1)))), (t1, .inl (cI, 28, .inl (sh fl)))]) hP hD [4, 5, 6] [0, 1, 2, 3, 7, 8, 9] [0, 1, 2, 3, 7, 8, 9, 4, 5, 6] rfl rfl (by decide) (by decide) hk1 hB rfl rfl rfl (by decide)
          generalize H1 = H at hP hS ⊢
          show W _ _ _ _ _ _ _ _ _ _ _ _ _ _ _ (F0 m 59 ls [])
          refine lv_aload_n hx hb dX2_bestOutrigger_59 rfl (lv_at hl 4 rfl) ?_
          refine va_get (D := D) (ci := 2) (v := .ref pn) (C := RX2) (T := TX2) (N := 9) hx hb hts hiX2 hown hK hP 0 rfl rfl 2 (by decide) (hts (.fieldLink RX2 22 "CraneReach" "plan" "LCraneReach$Plan;") (by decide +kernel)) (fun _ h9 => h9) rfl dX2_bestOutrigger_60 ?_
          refine lv_aload_n hx hb dX2_bestOutrigger_63 rfl (lv_at hl 4 rfl) ?_
          refine va_get (D := D) (ci := 2) (v := .ref tr) (C := RX2) (T := TX2) (N := 9) hx hb hts hiX2 hown hK hP 0 rfl rfl 1 (by decide) (hts (.fieldLink RX2 16 "CraneReach" "trial" "LCraneReach$Rig;") (by decide +kernel)) (fun _ h9 => h9) rfl dX2_bestOutrigger_64 ?_
          refine lv_iload_n hx hb dX2_bestOutrigger_67 rfl (lv_at hl 5 rfl) ?_
          refine lv_aload_n hx hb dX2_bestOutrigger_68 rfl (lv_at hl 4 rfl) ?_
          refine va_get (D := D) (ci := 2) (v := .int (nI d)) (C := RX2) (T := TX2) (N := 9) hx hb hts hiX2 hown hK hP 0 rfl rfl 3 (by decide) (hts (.fieldLink RX2 98 "CraneReach" "direction" "I") (by decide +kernel)) (fun _ h9 => h9) rfl dX2_bestOutrigger_69 ?_
          refine lv_aload_n hx hb dX2_bestOutrigger_72 rfl (lv_at hl 4 rfl) ?_
          refine va_get (D := D) (ci := 2) (v := .int (nI r)) (C := RX2) (T := TX2) (N := 9) hx hb hts hiX2 hown hK hP 0 rfl rfl 4 (by decide) (hts (.fieldLink RX2 26 "CraneReach" "reach" "I") (by decide +kernel)) (fun _ h9 => h9) rfl dX2_bestOutrigger_73 ?_
          have hPc := hP.sub (ws' := [(pn, .inr (0, [.ref pm, .ref pf, .int qn])), (pm, .inl (cI, 224, .inl qm)), (pf, .inl (cI, 224, .inl qf)), (tr, .inr (1, [.ref t0, .ref t1, .int pl])), (t0, .inl (cI, 4, .inl (upd fo k (fo k + 1)))), (t1, .inl (cI, 28, .inl (sh fl)))]) [7, 8, 9, 4, 5, 6] rfl
          have hDc : va_D (fun q : Nat => L0 ≤ q) [(pn, .inr (0, [.ref pm, .ref pf, .int qn])), (pm, .inl (cI, 224, .inl qm)), (pf, .inl (cI, 224, .inl qf)), (tr, .inr (1, [.ref t0, .ref t1, .int pl])), (t0, .inl (cI, 4, .inl (upd fo k (fo k + 1)))), (t1, .inl (cI, 28, .inl (sh fl)))] := (hD.sub (ws' := [(pn, .inr (0, [.ref pm, .ref pf, .int qn])), (pm, .inl (cI, 224, .inl qm)), (pf, .inl (cI, 224, .inl qf)), (tr, .inr (1, [.ref t0, .ref t1, .int pl])), (t0, .inl (cI, 4, .inl (upd fo k (fo k + 1)))), (t1, .inl (cI, 28, .inl (sh fl)))]) [7, 8, 9, 4, 5, 6] (by decide) rfl).weaken (fun _ z9 _ h9 => hAL _ h9)
          have hKc := hK.sub (tys' := [(cI, .int)]) [0] rfl
          refine c_callB (va_runV (As := [.ref tr, .int u, .int (nI d), .int (nI r)]) (rest := []) ⟨hx, hb, hml, hown, hts⟩ (k_spread l D L0 cI pn pm pf tr t0 t1 qn qm qf pl (upd fo k (fo k + 1)) fl u d r hd hr) (cwV 4 hts gX2_bestOutrigger_X0_spread rfl rfl rfl (by decide +kernel) ⟨Nat.le_of_ble_eq_true rfl, Nat.le_of_ble_eq_true rfl⟩) ⟨cP_blind, va_recv hKc hPc (ci := 0) (q0 := 0) rfl rfl, cP_of hPc hKc hDc (kE_at hE0 hAL hS)⟩ rfl rfl hl.1 rfl (lv_room (Nat.le_of_ble_eq_true rfl)) dX2_bestOutrigger_76 ⟨Nat.le_of_ble_eq_true rfl, Nat.le_of_ble_eq_true rfl⟩) hS (fun z9 _ ⟨k9, e9, h9⟩ => (hD.sub (ws' := [(pn, .inr (0, [.ref pm, .ref pf, .int qn])), (pm, .inl (cI, 224, .inl qm)), (pf, .inl (cI, 224, .inl qf)), (tr, .inr (1, [.ref t0, .ref t1, .int pl])), (t0, .inl (cI, 4, .inl (upd fo k (fo k + 1)))), (t1, .inl (cI, 28, .inl (sh fl)))]) [7, 8, 9, 4, 5, 6] (by decide) rfl).2 k9 (z9, e9) h9) (fun z9 ⟨k9, e9, h9⟩ => (hD.sub (ws' := [(pn, .inr (0, [.ref pm, .ref pf, .int qn])), (pm, .inl (cI, 224, .inl qm)), (pf, .inl (cI, 224, .inl qf)), (tr, .inr (1, [.ref t0, .ref t1, .int pl])), (t0, .inl (cI, 4, .inl (upd fo k (fo k + 1)))), (t1, .inl (cI, 28, .inl (sh fl)))]) [7, 8, 9, 4, 5, 6] (by decide) rfl).2 k9 (z9, e9) h9) (fun H1 locs hB hz1 hk1 hS => ?_)
          obtain ⟨fm9, ff9, hC, hB⟩ := hB
          obtain ⟨hP, hD⟩ := c_join (ws' := [(x, .inr (2, [.ref rg, .ref tr, .ref pn, .int (nI d), .int (nI r), .int ld, .int li, .int tl, .int mo])), (rg, .inr (1, [.ref ro, .ref rl, .int pl])), (ro, .inl (cI, 4, .inl fo)), (rl, .inl (cI, 28, .inl (sh fl))), (tr, .inr (1, [.ref t0, .ref t1, .int pl])), (t0, .inl (cI, 4, .inl (upd fo k (fo k + 1)))), (t1, .inl (cI, 28, .inl (sh fl))), (pn, .inr (0, [.ref pm, .ref pf, .int (nI (goS (safS (upd fo k (fo k + 1)) fl pl u) d r).2.2)])), (pm, .inl (cI, 224, .inl fm9)), (pf, .inl (cI, 224, .inl ff9))]) (wr := [(x, .inr (2, [.ref rg, .ref tr, .ref pn, .int (nI d), .int (nI r), .int ld, .int li, .int tl, .int mo])), (rg, .inr (1, [.ref ro, .ref rl, .int pl])), (ro, .inl (cI, 4, .inl fo)), (rl, .inl (cI, 28, .inl (sh fl)))]) (w1 := [(pn, .inr (0, [.ref pm, .ref pf, .int (nI (goS (safS (upd fo k (fo k + 1)) fl pl u) d r).2.2)])), (pm, .inl (cI, 224, .inl fm9)), (pf, .inl (cI, 224, .inl ff9)), (tr, .inr (1, [.ref t0, .ref t1, .int pl])), (t0, .inl (cI, 4, .inl (upd fo k (fo k + 1)))), (t1, .inl (cI, 28, .inl (sh fl)))]) hP hD [7, 8, 9, 4, 5, 6] [0, 1, 2, 3] [0, 1, 2, 3, 7, 8, 9, 4, 5, 6] rfl rfl (by decide) (by decide) hk1 hB rfl rfl rfl (by decide)
          generalize H1 = H at hP hS ⊢
          show W _ _ _ _ _ _ _ _ _ _ _ _ _ _ _ (F0 m 79 ls [.int (nI (goS (safS (upd fo k (fo k + 1)) fl pl u) d r).2.2)])
          refine c_top (show nI (goS (safS (upd fo k (fo k + 1)) fl pl u) d r).2.2 = ownS fo fl pl u d r k from rfl) ?_
          refine lv_istore (lv' := [(6, .int (ownS fo fl pl u d r k)), (5, .int (fo k)), (4, .int (nI k)), (2, .int ((boN (canS fo) (ownS fo fl pl u d r) k).1)), (3, .int ((boN (canS fo) (ownS fo fl pl u d r) k).2)), (0, .ref x), (1, .int u)]) hx hb dX2_bestOutrigger_79 hl (by decide) rfl (fun ls hl => ?_)
          refine lv_iload hx hb dX2_bestOutrigger_81 (lv_at hl 0 rfl) ?_
          refine lv_iload_n hx hb dX2_bestOutrigger_83 rfl (lv_at hl 4 rfl) ?_
          refine lv_icmp_le (tgt := 93) hx hb dX2_bestOutrigger_84 (by decide) (fun c_61 => ?_) (fun c_61 => ?_)
          · have e : boN (canS fo) (ownS fo fl pl u d r) (k + 1) = boN (canS fo) (ownS fo fl pl u d r) k := by rw [boN, if_pos hcan, if_neg (i_len c_61)]
            refine lv_iinc (v := (nI k) + 1) (lv' := [(4, .int ((nI k) + 1)), (6, .int (ownS fo fl pl u d r k)), (5, .int (fo k)), (2, .int ((boN (canS fo) (ownS fo fl pl u d r) k).1)), (3, .int ((boN (canS fo) (ownS fo fl pl u d r) k).2)), (0, .ref x), (1, .int u)]) hx hb dX2_bestOutrigger_93 hl (k := 2) rfl rfl (by decide) rfl (fun ls hl => ?_)
            refine lv_goto (tgt := 11) hx hb dX2_bestOutrigger_96 (by decide) ?_
            have hl : lv_has ls 7 [(4, .int (nI (k + 1))), (6, .int (ownS fo fl pl u d r k)), (5, .int (fo k)), (2, .int ((boN (canS fo) (ownS fo fl pl u d r) k).1)), (3, .int ((boN (canS fo) (ownS fo fl pl u d r) k).2)), (0, .ref x), (1, .int u)] := (show (nI k) + 1 = nI (k + 1) from nI_1 k) ▸ hl
            have hl : lv_has ls 7 [(4, .int (nI (k + 1))), (6, .int (ownS fo fl pl u d r k)), (5, .int (fo k)), (2, .int ((boN (canS fo) (ownS fo fl pl u d r) (k + 1)).1)), (3, .int ((boN (canS fo) (ownS fo fl pl u d r) k).2)), (0, .ref x), (1, .int u)] := (show (boN (canS fo) (ownS fo fl pl u d r) k).1 = (boN (canS fo) (ownS fo fl pl u d r) (k + 1)).1 from by rw [e]) ▸ hl
            have hl : lv_has ls 7 [(4, .int (nI (k + 1))), (6, .int (ownS fo fl pl u d r k)), (5, .int (fo k)), (2, .int ((boN (canS fo) (ownS fo fl pl u d r) (k + 1)).1)), (3, .int ((boN (canS fo) (ownS fo fl pl u d r) (k + 1)).2)), (0, .ref x), (1, .int u)] := (show (boN (canS fo) (ownS fo fl pl u d r) k).2 = (boN (canS fo) (ownS fo fl pl u d r) (k + 1)).2 from by rw [e]) ▸ hl
            exact ih (k + 1) _ _ _ _ _ _ _ _ _ (by omega) (lv_sub hl [0, 3, 4, 5, 6] rfl) hP hD hS
          · have e : boN (canS fo) (ownS fo fl pl u d r) (k + 1) = (nI k, ownS fo fl pl u d r k) := by rw [boN, if_pos hcan, if_pos (i_nle c_61)]
            refine lv_iload hx hb dX2_bestOutrigger_87 (lv_at hl 2 rfl) ?_
            refine lv_istore_n (lv' := [(2, .int (nI k)), (6, .int (ownS fo fl pl u d r k)), (5, .int (fo k)), (4, .int (nI k)), (3, .int ((boN (canS fo) (ownS fo fl pl u d r) k).2)), (0, .ref x), (1, .int u)]) hx hb dX2_bestOutrigger_89 rfl hl (by decide) rfl (fun ls hl => ?_)
            refine lv_iload hx hb dX2_bestOutrigger_90 (lv_at hl 1 rfl) ?_
            refine lv_istore_n (lv' := [(3, .int (ownS fo fl pl u d r k)), (2, .int (nI k)), (6, .int (ownS fo fl pl u d r k)), (5, .int (fo k)), (4, .int (nI k)), (0, .ref x), (1, .int u)]) hx hb dX2_bestOutrigger_92 rfl hl (by decide) rfl (fun ls hl => ?_)
            refine lv_iinc (v := (nI k) + 1) (lv' := [(4, .int ((nI k) + 1)), (3, .int (ownS fo fl pl u d r k)), (2, .int (nI k)), (6, .int (ownS fo fl pl u d r k)), (5, .int (fo k)), (0, .ref x), (1, .int u)]) hx hb dX2_bestOutrigger_93 hl (k := 4) rfl rfl (by decide) rfl (fun ls hl => ?_)
            refine lv_goto (tgt := 11) hx hb dX2_bestOutrigger_96 (by decide) ?_
            have hl : lv_has ls 7 [(4, .int (nI (k + 1))), (3, .int (ownS fo fl pl u d r k)), (2, .int (nI k)), (6, .int (ownS fo fl pl u d r k)), (5, .int (fo k)), (0, .ref x), (1, .int u)] := (show (nI k) + 1 = nI (k + 1) from nI_1 k) ▸ hl
            have hl : lv_has ls 7 [(4, .int (nI (k + 1))), (3, .int (ownS fo fl pl u d r k)), (2, .int ((boN (canS fo) (ownS fo fl pl u d r) (k + 1)).1)), (6, .int (ownS fo fl pl u d r k)), (5, .int (fo k)), (0, .ref x), (1, .int u)] := (show nI k = (boN (canS fo) (ownS fo fl pl u d r) (k + 1)).1 from by rw [e]) ▸ hl
            have hl : lv_has ls 7 [(4, .int (nI (k + 1))), (3, .int ((boN (canS fo) (ownS fo fl pl u d r) (k + 1)).2)), (2, .int ((boN (canS fo) (ownS fo fl pl u d r) (k + 1)).1)), (6, .int (ownS fo fl pl u d r k)), (5, .int (fo k)), (0, .ref x), (1, .int u)] := (show ownS fo fl pl u d r k = (boN (canS fo) (ownS fo fl pl u d r) (k + 1)).2 from by rw [e]) ▸ hl
            exact ih (k + 1) _ _ _ _ _ _ _ _ _ (by omega) (lv_sub hl [0, 2, 1, 5, 6] rfl) hP hD hS
    refine lv_iconst (v := -1) hx hb dX2_bestOutrigger_4 (by decide) ?_
    refine lv_istore_n (lv' := [(2, .int (-1)), (0, .ref x), (1, .int u)]) hx hb dX2_bestOutrigger_5 rfl hl (by decide) rfl (fun ls hl => ?_)
    refine lv_iconst (v := -1) hx hb dX2_bestOutrigger_6 (by decide) ?_
    refine lv_istore_n (lv' := [(3, .int (-1)), (2, .int (-1)), (0, .ref x), (1, .int u)]) hx hb dX2_bestOutrigger_7 rfl hl (by decide) rfl (fun ls hl => ?_)
    refine lv_iconst (v := 0) hx hb dX2_bestOutrigger_8 (by decide) ?_
    refine lv_istore (lv' := [(4, .int 0), (3, .int (-1)), (2, .int (-1)), (0, .ref x), (1, .int u)]) hx hb dX2_bestOutrigger_9 hl (by decide) rfl (fun ls hl => ?_)
    have hl : lv_has ls 7 [(4, .int (nI 0)), (3, .int (-1)), (2, .int (-1)), (0, .ref x), (1, .int u)] := (show 0 = nI 0 from rfl) ▸ hl
    have hl : lv_has ls 7 [(4, .int (nI 0)), (3, .int (-1)), (2, .int ((boN (canS fo) (ownS fo fl pl u d r) 0).1)), (0, .ref x), (1, .int u)] := (show (-1) = (boN (canS fo) (ownS fo fl pl u d r) 0).1 from rfl) ▸ hl
    have hl : lv_has ls 7 [(4, .int (nI 0)), (3, .int ((boN (canS fo) (ownS fo fl pl u d r) 0).2)), (2, .int ((boN (canS fo) (ownS fo fl pl u d r) 0).1)), (0, .ref x), (1, .int u)] := (show (-1) = (boN (canS fo) (ownS fo fl pl u d r) 0).2 from rfl) ▸ hl
    exact loop 4 0 _ _ _ _ _ _ _ _ _ (by omega) (lv_sub hl [0, 2, 1, 3, 4] rfl) hP hD hS
set_option maxHeartbeats 4000000 in
set_option maxRecDepth 100000 in
/-- digest() -/
theorem k_digest (l : Launch) (D : va_G) (L0 : Nat) (cI : ClassId) (x rg tr pn ro rl d r : Nat) (ld li tl mo pl : Int32) (fo fl : Nat → Int32) (hd : d < 8) (hr : 3 ≤ r ∧ r ≤ 30) : Met l yX2_digest wsX2_digest ({ frames := 4, cells := 0, slots := 0, locals := 95 }) (cP L0 D [(cI, .int)] [(x, .inr (2, [.ref rg, .ref tr, .ref pn, .int (nI d), .int (nI r), .int ld, .int li, .int tl, .int mo])), (rg, .inr (1, [.ref ro, .ref rl, .int pl])), (ro, .inl (cI, 4, .inl fo)), (rl, .inl (cI, 28, .inl (sh fl)))] [.ref x]) (cR (some (.long (digS d r ld li tl mo pl fo fl)))) 0 0 (fun _ => False) := by
  refine Met.ofW (cc := cX2_digest) (maxL := 4) (ret := (some .long)) (by decide) rfl ?_
  intro p e s m args below meth c s₁ B hml hv
  obtain ⟨rfl, hP, hK, hD0, hE0⟩ := hv
  have hx := B.exec
  have hb := B.bytes
  have hRt := B.returns
  have hts := atoms_spec (ws := wsX2_digest) B.pre
  have hown : s.vm.findClass RX2 = some m.cls := findClass_of_methodNamed B.named
  have hlocks := B.notSynchronized
  have hAL : ∀ z9 : Nat, (fun _ : Nat => False) z9 → L0 ≤ z9 := fun z9 h9 => False.elim h9
  generalize hAe : (fun _ : Nat => False) = A at hAL ⊢
  have hS : va_S A s.heap s.heap [] := va_S.rf
  have hiX2 : ∀ w ∈ u_ws RX2 TX2 9, w ∈ wsX2_digest := by decide +kernel
  have hiX1 : ∀ w ∈ u_ws RX1 TX1 3, w ∈ wsX2_digest := by decide +kernel
  have hl := lv_entry ([.ref x]) (n := 4) (Nat.le_of_ble_eq_true rfl)
  rw [lg_entry_eq]
  generalize (lg_sl ([.ref x]) ++ List.replicate (4 - (lg_sl ([.ref x])).length) Slot.unset).toArray = ls at hl ⊢
  have hl : lv_has ls 4 [(0, .ref x)] := hl
  have loop2 : ∀ (n : Nat) (i : Nat) (D2 : Int64) (ls : Array Slot), i + n = 31 → 3 ≤ i → dgR fl (fun z => nI (fb_ct (fun k => safS fo fl pl 5 k z) 8)) n i D2 = dgR fl (fun z => nI (fb_ct (fun k => safS fo fl pl 5 k z) 8)) 28 3 (dgO fo (fun k => strS fo pl k ld d r) 4 (digH d r ld pl (wkN (fun k => strS fo pl k ld d r) 4) li tl mo (grN (fun k => safS fo fl pl (nI k) d r) 60))) → lv_has ls 4 [(1, .long D2), (3, .int (nI i)), (0, .ref x)] → W p l e (headSpec wsX2_digest ({ frames := 4, cells := 0, slots := 0, locals := 95 })).room s m ([.ref x]).toArray below meth c s.heap [] 0 0 (MQ below (cR (some (.long (digS d r ld li tl mo pl fo fl)))) ([.ref x]).toArray s 0 0 A) (F0 m 141 ls []) := by
    intro n
    induction n with
    | zero =>
      intro i D2 ls hn h3 hG hl
      have hi : i = 31 := by omega
      rw [hi] at hl hG
      refine lv_iload_n hx hb dX2_digest_141 rfl (lv_at hl 1 rfl) ?_
      refine lv_bipush (v := 30) hx hb dX2_digest_142 (by decide) ?_
      refine lv_icmp_gt (tgt := 177) hx hb dX2_digest_144 (by decide) (fun _ => ?_) (fun c_62 => absurd (by decide) c_62)
      refine lv_lload_n hx hb dX2_digest_177 rfl (lv_at hl 0 rfl) ?_
      exact W.lret (v := D2) hx hb hRt (fun t ht hW => ⟨by rw [digS, ← hG]; rfl, ht⟩) hS.2.2 dX2_digest_178
    | succ n ih =>
      intro i D2 ls hn h3 hG hl
      refine lv_iload_n hx hb dX2_digest_141 rfl (lv_at hl 1 rfl) ?_
      refine lv_bipush (v := 30) hx hb dX2_digest_142 (by decide) ?_
      refine lv_icmp_gt (tgt := 177) hx hb dX2_digest_144 (by decide) (fun c_63 => absurd c_63 (Int32.not_lt.mpr (nI_le (b := 30) (by omega) (by decide)))) (fun _ => ?_)
      refine lv_lload_n hx hb dX2_digest_147 rfl (lv_at hl 0 rfl) ?_
      refine lv_aload_n hx hb dX2_digest_148 rfl (lv_at hl 2 rfl) ?_
      refine va_get (D := D) (ci := 2) (v := .ref rg) (C := RX2) (T := TX2) (N := 9) hx hb hts hiX2 hown hK hP 0 rfl rfl 0 (by decide) (hts (.fieldLink RX2 12 "CraneReach" "rig" "LCraneReach$Rig;") (by decide +kernel)) (fun _ h9 => h9) rfl dX2_digest_149 ?_
      refine lv_iload_n hx hb dX2_digest_152 rfl (lv_at hl 1 rfl) ?_
      have hPc := hP.sub (ws' := [(rg, .inr (1, [.ref ro, .ref rl, .int pl])), (ro, .inl (cI, 4, .inl fo)), (rl, .inl (cI, 28, .inl (sh fl)))]) [1, 2, 3] rfl
      have hDc := hD0.sub (ws' := [(rg, .inr (1, [.ref ro, .ref rl, .int pl])), (ro, .inl (cI, 4, .inl fo)), (rl, .inl (cI, 28, .inl (sh fl)))]) [1, 2, 3] (by decide) rfl
      have hKc := hK.sub (tys' := [(cI, .int)]) [0] rfl
      refine c_callR (va_runV (As := [.int (nI i)]) (rest := [.long D2]) ⟨hx, hb, hml, hown, hts⟩ (k_allowed l D L0 cI rg ro rl pl fo (sh fl) i (by omega)) (cwV 1 hts gX2_digest_X1_allowed rfl rfl rfl (by decide +kernel) ⟨Nat.le_of_ble_eq_true rfl, Nat.le_of_ble_eq_true rfl⟩) ⟨cP_blind, va_recv hKc hPc (ci := 1) (q0 := 0) rfl rfl, cP_of hPc hKc hDc (kE_at hE0 hAL hS)⟩ rfl rfl hl.1 rfl (lv_room (Nat.le_of_ble_eq_true rfl)) dX2_digest_153 ⟨Nat.le_of_ble_eq_true rfl, Nat.le_of_ble_eq_true rfl⟩) ?_
      show W _ _ _ _ _ _ _ _ _ _ _ _ _ _ _ (F0 m 156 ls [.int (sh fl (i - 3)), .long D2])
      refine c_top (show sh fl (i - 3) = fl i from sh_at h3) ?_
      have hPc := hP.sub (ws' := []) [] rfl
      have hDc := hD0.sub (ws' := []) [] (by decide) rfl
      have hKc := hK.sub (tys' := []) [] rfl
      refine c_callR (va_runS (As := [.long D2, .int (fl i)]) (rest := []) ⟨hx, hb, hml, hown, hts⟩ (k_mixed l D L0 D2 (fl i)) (va_cwS 2 hts gX2_digest_X2_mixed rfl rfl rfl (by decide +kernel) ⟨Nat.le_of_ble_eq_true rfl, Nat.le_of_ble_eq_true rfl⟩) ⟨cP_blind, cP_of hPc hKc hDc (kE_at hE0 hAL hS)⟩ rfl rfl hl.1 rfl (lv_room (Nat.le_of_ble_eq_true rfl)) dX2_digest_156 ⟨Nat.le_of_ble_eq_true rfl, Nat.le_of_ble_eq_true rfl⟩) ?_
      show W _ _ _ _ _ _ _ _ _ _ _ _ _ _ _ (F0 m 159 ls [.long (mxL D2 (fl i))])
      refine lv_lstore_n (lv' := [(1, .long (mxL D2 (fl i))), (3, .int (nI i)), (0, .ref x)]) hx hb dX2_digest_159 rfl hl (by decide) rfl (fun ls hl => ?_)
      refine lv_lload_n hx hb dX2_digest_160 rfl (lv_at hl 0 rfl) ?_
      refine lv_aload_n hx hb dX2_digest_161 rfl (lv_at hl 2 rfl) ?_
      refine lv_iconst (v := 5) hx hb dX2_digest_162 (by decide) ?_
      refine lv_iload_n hx hb dX2_digest_163 rfl (lv_at hl 1 rfl) ?_
      have hPc := hP.sub (ws' := [(x, .inr (2, [.ref rg, .ref tr, .ref pn, .int (nI d), .int (nI r), .int ld, .int li, .int tl, .int mo])), (rg, .inr (1, [.ref ro, .ref rl, .int pl])), (ro, .inl (cI, 4, .inl fo)), (rl, .inl (cI, 28, .inl (sh fl)))]) [0, 1, 2, 3] rfl
      have hDc := hD0.sub (ws' := [(x, .inr (2, [.ref rg, .ref tr, .ref pn, .int (nI d), .int (nI r), .int ld, .int li, .int tl, .int mo])), (rg, .inr (1, [.ref ro, .ref rl, .int pl])), (ro, .inl (cI, 4, .inl fo)), (rl, .inl (cI, 28, .inl (sh fl)))]) [0, 1, 2, 3] (by decide) rfl
      have hKc := hK.sub (tys' := [(cI, .int)]) [0] rfl
      refine c_callR (va_runV (As := [.int 5, .int (nI i)]) (rest := [.long (mxL D2 (fl i))]) ⟨hx, hb, hml, hown, hts⟩ (k_safeDirections_ok l D L0 cI x rg tr pn ro rl d r ld li tl mo pl fo fl 5 i (by decide) (by omega)) (cwV 2 hts gX2_digest_X2_safeDirections rfl rfl rfl (by decide +kernel) ⟨Nat.le_of_ble_eq_true rfl, Nat.le_of_ble_eq_true rfl⟩) ⟨cP_blind, va_recv hKc hPc (ci := 2) (q0 := 0) rfl rfl, cP_of hPc hKc hDc (kE_at hE0 hAL hS)⟩ rfl rfl hl.1 rfl (lv_room (Nat.le_of_ble_eq_true rfl)) dX2_digest_164 ⟨Nat.le_of_ble_eq_true rfl, Nat.le_of_ble_eq_true rfl⟩) ?_
      show W _ _ _ _ _ _ _ _ _ _ _ _ _ _ _ (F0 m 167 ls [.int (nI (fb_ct (fun k => safS fo fl pl 5 k i) 8)), .long (mxL D2 (fl i))])
      have hPc := hP.sub (ws' := []) [] rfl
      have hDc := hD0.sub (ws' := []) [] (by decide) rfl
      have hKc := hK.sub (tys' := []) [] rfl
      refine c_callR (va_runS (As := [.long (mxL D2 (fl i)), .int (nI (fb_ct (fun k => safS fo fl pl 5 k i) 8))]) (rest := []) ⟨hx, hb, hml, hown, hts⟩ (k_mixed l D L0 (mxL D2 (fl i)) (nI (fb_ct (fun k => safS fo fl pl 5 k i) 8))) (va_cwS 2 hts gX2_digest_X2_mixed rfl rfl rfl (by decide +kernel) ⟨Nat.le_of_ble_eq_true rfl, Nat.le_of_ble_eq_true rfl⟩) ⟨cP_blind, cP_of hPc hKc hDc (kE_at hE0 hAL hS)⟩ rfl rfl hl.1 rfl (lv_room (Nat.le_of_ble_eq_true rfl)) dX2_digest_167 ⟨Nat.le_of_ble_eq_true rfl, Nat.le_of_ble_eq_true rfl⟩) ?_
      show W _ _ _ _ _ _ _ _ _ _ _ _ _ _ _ (F0 m 170 ls [.long (mxL (mxL D2 (fl i)) (nI (fb_ct (fun k => safS fo fl pl 5 k i) 8)))])
      refine lv_lstore_n (lv' := [(1, .long (mxL (mxL D2 (fl i)) (nI (fb_ct (fun k => safS fo fl pl 5 k i) 8)))), (3, .int (nI i)), (0, .ref x)]) hx hb dX2_digest_170 rfl hl (by decide) rfl (fun ls hl => ?_)
      refine lv_iinc (v := (nI i) + 1) (lv' := [(3, .int ((nI i) + 1)), (1, .long (mxL (mxL D2 (fl i)) (nI (fb_ct (fun k => safS fo fl pl 5 k i) 8)))), (0, .ref x)]) hx hb dX2_digest_171 hl (k := 1) rfl rfl (by decide) rfl (fun ls hl => ?_)
      refine lv_goto (tgt := 141) hx hb dX2_digest_174 (by decide) ?_
      have hl : lv_has ls 4 [(3, .int (nI (i + 1))), (1, .long (mxL (mxL D2 (fl i)) (nI (fb_ct (fun k => safS fo fl pl 5 k i) 8)))), (0, .ref x)] := (show (nI i) + 1 = nI (i + 1) from nI_1 i) ▸ hl
      exact ih (i + 1) _ _ (by omega) (by omega) hG (lv_sub hl [1, 0, 2] rfl)
  have loop1 : ∀ (n : Nat) (k : Nat) (ls : Array Slot), k + n = 4 → lv_has ls 4 [(1, .long (dgO fo (fun k => strS fo pl k ld d r) k (digH d r ld pl (wkN (fun k => strS fo pl k ld d r) 4) li tl mo (grN (fun k => safS fo fl pl (nI k) d r) 60)))), (3, .int (nI k)), (0, .ref x)] → W p l e (headSpec wsX2_digest ({ frames := 4, cells := 0, slots := 0, locals := 95 })).room s m ([.ref x]).toArray below meth c s.heap [] 0 0 (MQ below (cR (some (.long (digS d r ld li tl mo pl fo fl)))) ([.ref x]).toArray s 0 0 A) (F0 m 90 ls []) := by
    intro n
    induction n with
    | zero =>
      intro k ls hn hl
      have hi : k = 4 := by omega
      rw [hi] at hl
      refine lv_iload_n hx hb dX2_digest_90 rfl (lv_at hl 1 rfl) ?_
      refine lv_iconst (v := 4) hx hb dX2_digest_91 (by decide) ?_
      refine lv_icmp_ge (tgt := 139) hx hb dX2_digest_92 (by decide) (fun _ => ?_) (fun c_64 => absurd (by decide) c_64)
      refine lv_iconst (v := 3) hx hb dX2_digest_139 (by decide) ?_
      refine lv_istore_n (lv' := [(3, .int 3), (1, .long (dgO fo (fun k => strS fo pl k ld d r) 4 (digH d r ld pl (wkN (fun k => strS fo pl k ld d r) 4) li tl mo (grN (fun k => safS fo fl pl (nI k) d r) 60)))), (0, .ref x)]) hx hb dX2_digest_140 rfl hl (by decide) rfl (fun ls hl => ?_)
      have hl : lv_has ls 4 [(3, .int (nI 3)), (1, .long (dgO fo (fun k => strS fo pl k ld d r) 4 (digH d r ld pl (wkN (fun k => strS fo pl k ld d r) 4) li tl mo (grN (fun k => safS fo fl pl (nI k) d r) 60)))), (0, .ref x)] := (show 3 = nI 3 from rfl) ▸ hl
      exact loop2 28 3 _ _ (by omega) (by omega) rfl (lv_sub hl [1, 0, 2] rfl)
    | succ n ih =>
      intro k ls hn hl
      refine lv_iload_n hx hb dX2_digest_90 rfl (lv_at hl 1 rfl) ?_
      refine lv_iconst (v := 4) hx hb dX2_digest_91 (by decide) ?_
      refine lv_icmp_ge (tgt := 139) hx hb dX2_digest_92 (by decide) (fun c_65 => absurd c_65 (nI_ge (b := 4) (by omega) (by decide))) (fun _ => ?_)
      refine lv_lload_n hx hb dX2_digest_95 rfl (lv_at hl 0 rfl) ?_
      refine lv_aload_n hx hb dX2_digest_96 rfl (lv_at hl 2 rfl) ?_
      refine va_get (D := D) (ci := 2) (v := .ref rg) (C := RX2) (T := TX2) (N := 9) hx hb hts hiX2 hown hK hP 0 rfl rfl 0 (by decide) (hts (.fieldLink RX2 12 "CraneReach" "rig" "LCraneReach$Rig;") (by decide +kernel)) (fun _ h9 => h9) rfl dX2_digest_97 ?_
      refine lv_iload_n hx hb dX2_digest_100 rfl (lv_at hl 1 rfl) ?_
      have hPc := hP.sub (ws' := [(rg, .inr (1, [.ref ro, .ref rl, .int pl])), (ro, .inl (cI, 4, .inl fo)), (rl, .inl (cI, 28, .inl (sh fl)))]) [1, 2, 3] rfl
      have hDc := hD0.sub (ws' := [(rg, .inr (1, [.ref ro, .ref rl, .int pl])), (ro, .inl (cI, 4, .inl fo)), (rl, .inl (cI, 28, .inl (sh fl)))]) [1, 2, 3] (by decide) rfl
      have hKc := hK.sub (tys' := [(cI, .int)]) [0] rfl
      refine c_callR (va_runV (As := [.int (nI k)]) (rest := [.long (dgO fo (fun k => strS fo pl k ld d r) k (digH d r ld pl (wkN (fun k => strS fo pl k ld d r) 4) li tl mo (grN (fun k => safS fo fl pl (nI k) d r) 60)))]) ⟨hx, hb, hml, hown, hts⟩ (k_drawn l D L0 cI rg ro rl pl fo (sh fl) k (by omega)) (cwV 1 hts gX2_digest_X1_drawn rfl rfl rfl (by decide +kernel) ⟨Nat.le_of_ble_eq_true rfl, Nat.le_of_ble_eq_true rfl⟩) ⟨cP_blind, va_recv hKc hPc (ci := 1) (q0 := 0) rfl rfl, cP_of hPc hKc hDc (kE_at hE0 hAL hS)⟩ rfl rfl hl.1 rfl (lv_room (Nat.le_of_ble_eq_true rfl)) dX2_digest_101 ⟨Nat.le_of_ble_eq_true rfl, Nat.le_of_ble_eq_true rfl⟩) ?_
      show W _ _ _ _ _ _ _ _ _ _ _ _ _ _ _ (F0 m 104 ls [.int (fo k), .long (dgO fo (fun k => strS fo pl k ld d r) k (digH d r ld pl (wkN (fun k => strS fo pl k ld d r) 4) li tl mo (grN (fun k => safS fo fl pl (nI k) d r) 60)))])
      have hPc := hP.sub (ws' := []) [] rfl
      have hDc := hD0.sub (ws' := []) [] (by decide) rfl
      have hKc := hK.sub (tys' := []) [] rfl
      refine c_callR (va_runS (As := [.long (dgO fo (fun k => strS fo pl k ld d r) k (digH d r ld pl (wkN (fun k => strS fo pl k ld d r) 4) li tl mo (grN (fun k => safS fo fl pl (nI k) d r) 60))), .int (fo k)]) (rest := []) ⟨hx, hb, hml, hown, hts⟩ (k_mixed l D L0 (dgO fo (fun k => strS fo pl k ld d r) k (digH d r ld pl (wkN (fun k => strS fo pl k ld d r) 4) li tl mo (grN (fun k => safS fo fl pl (nI k) d r) 60))) (fo k)) (va_cwS 2 hts gX2_digest_X2_mixed rfl rfl rfl (by decide +kernel) ⟨Nat.le_of_ble_eq_true rfl, Nat.le_of_ble_eq_true rfl⟩) ⟨cP_blind, cP_of hPc hKc hDc (kE_at hE0 hAL hS)⟩ rfl rfl hl.1 rfl (lv_room (Nat.le_of_ble_eq_true rfl)) dX2_digest_104 ⟨Nat.le_of_ble_eq_true rfl, Nat.le_of_ble_eq_true rfl⟩) ?_
      show W _ _ _ _ _ _ _ _ _ _ _ _ _ _ _ (F0 m 107 ls [.long (mxL (dgO fo (fun k => strS fo pl k ld d r) k (digH d r ld pl (wkN (fun k => strS fo pl k ld d r) 4) li tl mo (grN (fun k => safS fo fl pl (nI k) d r) 60))) (fo k))])
      refine lv_lstore_n (lv' := [(1, .long (mxL (dgO fo (fun k => strS fo pl k ld d r) k (digH d r ld pl (wkN (fun k => strS fo pl k ld d r) 4) li tl mo (grN (fun k => safS fo fl pl (nI k) d r) 60))) (fo k))), (3, .int (nI k)), (0, .ref x)]) hx hb dX2_digest_107 rfl hl (by decide) rfl (fun ls hl => ?_)
      refine lv_lload_n hx hb dX2_digest_108 rfl (lv_at hl 0 rfl) ?_
      refine lv_aload_n hx hb dX2_digest_109 rfl (lv_at hl 2 rfl) ?_
      refine va_get (D := D) (ci := 2) (v := .ref rg) (C := RX2) (T := TX2) (N := 9) hx hb hts hiX2 hown hK hP 0 rfl rfl 0 (by decide) (hts (.fieldLink RX2 12 "CraneReach" "rig" "LCraneReach$Rig;") (by decide +kernel)) (fun _ h9 => h9) rfl dX2_digest_110 ?_
      refine lv_iload_n hx hb dX2_digest_113 rfl (lv_at hl 1 rfl) ?_
      refine lv_aload_n hx hb dX2_digest_114 rfl (lv_at hl 2 rfl) ?_
      refine va_get (D := D) (ci := 2) (v := .int ld) (C := RX2) (T := TX2) (N := 9) hx hb hts hiX2 hown hK hP 0 rfl rfl 5 (by decide) (hts (.fieldLink RX2 48 "CraneReach" "load" "I") (by decide +kernel)) (fun _ h9 => h9) rfl dX2_digest_115 ?_
      refine lv_aload_n hx hb dX2_digest_118 rfl (lv_at hl 2 rfl) ?_
      refine va_get (D := D) (ci := 2) (v := .int (nI d)) (C := RX2) (T := TX2) (N := 9) hx hb hts hiX2 hown hK hP 0 rfl rfl 3 (by decide) (hts (.fieldLink RX2 98 "CraneReach" "direction" "I") (by decide +kernel)) (fun _ h9 => h9) rfl dX2_digest_119 ?_
      refine lv_aload_n hx hb dX2_digest_122 rfl (lv_at hl 2 rfl) ?_
      refine va_get (D := D) (ci := 2) (v := .int (nI r)) (C := RX2) (T := TX2) (N := 9) hx hb hts hiX2 hown hK hP 0 rfl rfl 4 (by decide) (hts (.fieldLink RX2 26 "CraneReach" "reach" "I") (by decide +kernel)) (fun _ h9 => h9) rfl dX2_digest_123 ?_
      have hPc := hP.sub (ws' := [(rg, .inr (1, [.ref ro, .ref rl, .int pl])), (ro, .inl (cI, 4, .inl fo)), (rl, .inl (cI, 28, .inl (sh fl)))]) [1, 2, 3] rfl
      have hDc := hD0.sub (ws' := [(rg, .inr (1, [.ref ro, .ref rl, .int pl])), (ro, .inl (cI, 4, .inl fo)), (rl, .inl (cI, 28, .inl (sh fl)))]) [1, 2, 3] (by decide) rfl
      have hKc := hK.sub (tys' := [(cI, .int)]) [0] rfl
      refine c_callR (va_runV (As := [.int (nI k), .int ld, .int (nI d), .int (nI r)]) (rest := [.long (mxL (dgO fo (fun k => strS fo pl k ld d r) k (digH d r ld pl (wkN (fun k => strS fo pl k ld d r) 4) li tl mo (grN (fun k => safS fo fl pl (nI k) d r) 60))) (fo k))]) ⟨hx, hb, hml, hown, hts⟩ (k_strain l D L0 cI rg ro rl pl fo (sh fl) k d r ld (by omega) hd) (cwV 4 hts gX2_digest_X1_strain rfl rfl rfl (by decide +kernel) ⟨Nat.le_of_ble_eq_true rfl, Nat.le_of_ble_eq_true rfl⟩) ⟨cP_blind, va_recv hKc hPc (ci := 1) (q0 := 0) rfl rfl, cP_of hPc hKc hDc (kE_at hE0 hAL hS)⟩ rfl rfl hl.1 rfl (lv_room (Nat.le_of_ble_eq_true rfl)) dX2_digest_126 ⟨Nat.le_of_ble_eq_true rfl, Nat.le_of_ble_eq_true rfl⟩) ?_
      show W _ _ _ _ _ _ _ _ _ _ _ _ _ _ _ (F0 m 129 ls [.int (strS fo pl k ld d r), .long (mxL (dgO fo (fun k => strS fo pl k ld d r) k (digH d r ld pl (wkN (fun k => strS fo pl k ld d r) 4) li tl mo (grN (fun k => safS fo fl pl (nI k) d r) 60))) (fo k))])
      have hPc := hP.sub (ws' := []) [] rfl
      have hDc := hD0.sub (ws' := []) [] (by decide) rfl
      have hKc := hK.sub (tys' := []) [] rfl
      refine c_callR (va_runS (As := [.long (mxL (dgO fo (fun k => strS fo pl k ld d r) k (digH d r ld pl (wkN (fun k => strS fo pl k ld d r) 4) li tl mo (grN (fun k => safS fo fl pl (nI k) d r) 60))) (fo k)), .int (strS fo pl k ld d r)]) (rest := []) ⟨hx, hb, hml, hown, hts⟩ (k_mixed l D L0 (mxL (dgO fo (fun k => strS fo pl k ld d r) k (digH d r ld pl (wkN (fun k => strS fo pl k ld d r) 4) li tl mo (grN (fun k => safS fo fl pl (nI k) d r) 60))) (fo k)) (strS fo pl k ld d r)) (va_cwS 2 hts gX2_digest_X2_mixed rfl rfl rfl (by decide +kernel) ⟨Nat.le_of_ble_eq_true rfl, Nat.le_of_ble_eq_true rfl⟩) ⟨cP_blind, cP_of hPc hKc hDc (kE_at hE0 hAL hS)⟩ rfl rfl hl.1 rfl (lv_room (Nat.le_of_ble_eq_true rfl)) dX2_digest_129 ⟨Nat.le_of_ble_eq_true rfl, Nat.le_of_ble_eq_true rfl⟩) ?_
      show W _ _ _ _ _ _ _ _ _ _ _ _ _ _ _ (F0 m 132 ls [.long (mxL (mxL (dgO fo (fun k => strS fo pl k ld d r) k (digH d r ld pl (wkN (fun k => strS fo pl k ld d r) 4) li tl mo (grN (fun k => safS fo fl pl (nI k) d r) 60))) (fo k)) (strS fo pl k ld d r))])
      refine lv_lstore_n (lv' := [(1, .long (mxL (mxL (dgO fo (fun k => strS fo pl k ld d r) k (digH d r ld pl (wkN (fun k => strS fo pl k ld d r) 4) li tl mo (grN (fun k => safS fo fl pl (nI k) d r) 60))) (fo k)) (strS fo pl k ld d r))), (3, .int (nI k)), (0, .ref x)]) hx hb dX2_digest_132 rfl hl (by decide) rfl (fun ls hl => ?_)
      refine lv_iinc (v := (nI k) + 1) (lv' := [(3, .int ((nI k) + 1)), (1, .long (mxL (mxL (dgO fo (fun k => strS fo pl k ld d r) k (digH d r ld pl (wkN (fun k => strS fo pl k ld d r) 4) li tl mo (grN (fun k => safS fo fl pl (nI k) d r) 60))) (fo k)) (strS fo pl k ld d r))), (0, .ref x)]) hx hb dX2_digest_133 hl (k := 1) rfl rfl (by decide) rfl (fun ls hl => ?_)
      refine lv_goto (tgt := 90) hx hb dX2_digest_136 (by decide) ?_
      have hl : lv_has ls 4 [(3, .int (nI (k + 1))), (1, .long (mxL (mxL (dgO fo (fun k => strS fo pl k ld d r) k (digH d r ld pl (wkN (fun k => strS fo pl k ld d r) 4) li tl mo (grN (fun k => safS fo fl pl (nI k) d r) 60))) (fo k)) (strS fo pl k ld d r))), (0, .ref x)] := (show (nI k) + 1 = nI (k + 1) from nI_1 k) ▸ hl
      have hl : lv_has ls 4 [(3, .int (nI (k + 1))), (1, .long (dgO fo (fun k => strS fo pl k ld d r) (k + 1) (digH d r ld pl (wkN (fun k => strS fo pl k ld d r) 4) li tl mo (grN (fun k => safS fo fl pl (nI k) d r) 60)))), (0, .ref x)] := hl
      exact ih (k + 1) _ (by omega) (lv_sub hl [1, 0, 2] rfl)
  refine lv_ldc2 (v := 1907) hx hb hown (hts (.constantLong RX2 137 1907) (by decide +kernel)) dX2_digest_0 ?_
  refine lv_lstore_n (lv' := [(1, .long 1907), (0, .ref x)]) hx hb dX2_digest_3 rfl hl (by decide) rfl (fun ls hl => ?_)
  refine lv_lload_n hx hb dX2_digest_4 rfl (lv_at hl 0 rfl) ?_
  refine lv_aload_n hx hb dX2_digest_5 rfl (lv_at hl 1 rfl) ?_
  refine va_get (D := D) (ci := 2) (v := .int (nI d)) (C := RX2) (T := TX2) (N := 9) hx hb hts hiX2 hown hK hP 0 rfl rfl 3 (by decide) (hts (.fieldLink RX2 98 "CraneReach" "direction" "I") (by decide +kernel)) (fun _ h9 => h9) rfl dX2_digest_6 ?_
  have hPc := hP.sub (ws' := []) [] rfl
  have hDc := hD0.sub (ws' := []) [] (by decide) rfl
  have hKc := hK.sub (tys' := []) [] rfl
  refine c_callR (va_runS (As := [.long 1907, .int (nI d)]) (rest := []) ⟨hx, hb, hml, hown, hts⟩ (k_mixed l D L0 1907 (nI d)) (va_cwS 2 hts gX2_digest_X2_mixed rfl rfl rfl (by decide +kernel) ⟨Nat.le_of_ble_eq_true rfl, Nat.le_of_ble_eq_true rfl⟩) ⟨cP_blind, cP_of hPc hKc hDc (kE_at hE0 hAL hS)⟩ rfl rfl hl.1 rfl (lv_room (Nat.le_of_ble_eq_true rfl)) dX2_digest_9 ⟨Nat.le_of_ble_eq_true rfl, Nat.le_of_ble_eq_true rfl⟩) ?_
  show W _ _ _ _ _ _ _ _ _ _ _ _ _ _ _ (F0 m 12 ls [.long (mxL 1907 (nI d))])
  refine lv_lstore_n (lv' := [(1, .long (mxL 1907 (nI d))), (0, .ref x)]) hx hb dX2_digest_12 rfl hl (by decide) rfl (fun ls hl => ?_)
  refine lv_lload_n hx hb dX2_digest_13 rfl (lv_at hl 0 rfl) ?_
  refine lv_aload_n hx hb dX2_digest_14 rfl (lv_at hl 1 rfl) ?_
  refine va_get (D := D) (ci := 2) (v := .int (nI r)) (C := RX2) (T := TX2) (N := 9) hx hb hts hiX2 hown hK hP 0 rfl rfl 4 (by decide) (hts (.fieldLink RX2 26 "CraneReach" "reach" "I") (by decide +kernel)) (fun _ h9 => h9) rfl dX2_digest_15 ?_
  have hPc := hP.sub (ws' := []) [] rfl
  have hDc := hD0.sub (ws' := []) [] (by decide) rfl
  have hKc := hK.sub (tys' := []) [] rfl
  refine c_callR (va_runS (As := [.long (mxL 1907 (nI d)), .int (nI r)]) (rest := []) ⟨hx, hb, hml, hown, hts⟩ (k_mixed l D L0 (mxL 1907 (nI d)) (nI r)) (va_cwS 2 hts gX2_digest_X2_mixed rfl rfl rfl (by decide +kernel) ⟨Nat.le_of_ble_eq_true rfl, Nat.le_of_ble_eq_true rfl⟩) ⟨cP_blind, cP_of hPc hKc hDc (kE_at hE0 hAL hS)⟩ rfl rfl hl.1 rfl (lv_room (Nat.le_of_ble_eq_true rfl)) dX2_digest_18 ⟨Nat.le_of_ble_eq_true rfl, Nat.le_of_ble_eq_true rfl⟩) ?_
  show W _ _ _ _ _ _ _ _ _ _ _ _ _ _ _ (F0 m 21 ls [.long (mxL (mxL 1907 (nI d)) (nI r))])
  refine lv_lstore_n (lv' := [(1, .long (mxL (mxL 1907 (nI d)) (nI r))), (0, .ref x)]) hx hb dX2_digest_21 rfl hl (by decide) rfl (fun ls hl => ?_)
  refine lv_lload_n hx hb dX2_digest_22 rfl (lv_at hl 0 rfl) ?_
  refine lv_aload_n hx hb dX2_digest_23 rfl (lv_at hl 1 rfl) ?_
  refine va_get (D := D) (ci := 2) (v := .int ld) (C := RX2) (T := TX2) (N := 9) hx hb hts hiX2 hown hK hP 0 rfl rfl 5 (by decide) (hts (.fieldLink RX2 48 "CraneReach" "load" "I") (by decide +kernel)) (fun _ h9 => h9) rfl dX2_digest_24 ?_
  have hPc := hP.sub (ws' := []) [] rfl
  have hDc := hD0.sub (ws' := []) [] (by decide) rfl
  have hKc := hK.sub (tys' := []) [] rfl
  refine c_callR (va_runS (As := [.long (mxL (mxL 1907 (nI d)) (nI r)), .int ld]) (rest := []) ⟨hx, hb, hml, hown, hts⟩ (k_mixed l D L0 (mxL (mxL 1907 (nI d)) (nI r)) ld) (va_cwS 2 hts gX2_digest_X2_mixed rfl rfl rfl (by decide +kernel) ⟨Nat.le_of_ble_eq_true rfl, Nat.le_of_ble_eq_true rfl⟩) ⟨cP_blind, cP_of hPc hKc hDc (kE_at hE0 hAL hS)⟩ rfl rfl hl.1 rfl (lv_room (Nat.le_of_ble_eq_true rfl)) dX2_digest_27 ⟨Nat.le_of_ble_eq_true rfl, Nat.le_of_ble_eq_true rfl⟩) ?_
  show W _ _ _ _ _ _ _ _ _ _ _ _ _ _ _ (F0 m 30 ls [.long (mxL (mxL (mxL 1907 (nI d)) (nI r)) ld)])
  refine lv_lstore_n (lv' := [(1, .long (mxL (mxL (mxL 1907 (nI d)) (nI r)) ld)), (0, .ref x)]) hx hb dX2_digest_30 rfl hl (by decide) rfl (fun ls hl => ?_)
  refine lv_lload_n hx hb dX2_digest_31 rfl (lv_at hl 0 rfl) ?_
  refine lv_aload_n hx hb dX2_digest_32 rfl (lv_at hl 1 rfl) ?_
  refine va_get (D := D) (ci := 2) (v := .ref rg) (C := RX2) (T := TX2) (N := 9) hx hb hts hiX2 hown hK hP 0 rfl rfl 0 (by decide) (hts (.fieldLink RX2 12 "CraneReach" "rig" "LCraneReach$Rig;") (by decide +kernel)) (fun _ h9 => h9) rfl dX2_digest_33 ?_
  refine va_get (D := D) (ci := 1) (v := .int pl) (C := RX1) (T := TX1) (N := 3) hx hb hts hiX1 hown hK hP 1 rfl rfl 2 (by decide) (hts (.fieldLink RX2 45 "CraneReach$Rig" "plates" "I") (by decide +kernel)) (fun _ h9 => h9) rfl dX2_digest_36 ?_
  have hPc := hP.sub (ws' := []) [] rfl
  have hDc := hD0.sub (ws' := []) [] (by decide) rfl
  have hKc := hK.sub (tys' := []) [] rfl
  refine c_callR (va_runS (As := [.long (mxL (mxL (mxL 1907 (nI d)) (nI r)) ld), .int pl]) (rest := []) ⟨hx, hb, hml, hown, hts⟩ (k_mixed l D L0 (mxL (mxL (mxL 1907 (nI d)) (nI r)) ld) pl) (va_cwS 2 hts gX2_digest_X2_mixed rfl rfl rfl (by decide +kernel) ⟨Nat.le_of_ble_eq_true rfl, Nat.le_of_ble_eq_true rfl⟩) ⟨cP_blind, cP_of hPc hKc hDc (kE_at hE0 hAL hS)⟩ rfl rfl hl.1 rfl (lv_room (Nat.le_of_ble_eq_true rfl)) dX2_digest_39 ⟨Nat.le_of_ble_eq_true rfl, Nat.le_of_ble_eq_true rfl⟩) ?_
  show W _ _ _ _ _ _ _ _ _ _ _ _ _ _ _ (F0 m 42 ls [.long (mxL (mxL (mxL (mxL 1907 (nI d)) (nI r)) ld) pl)])
  refine lv_lstore_n (lv' := [(1, .long (mxL (mxL (mxL (mxL 1907 (nI d)) (nI r)) ld) pl)), (0, .ref x)]) hx hb dX2_digest_42 rfl hl (by decide) rfl (fun ls hl => ?_)
  refine lv_lload_n hx hb dX2_digest_43 rfl (lv_at hl 0 rfl) ?_
  refine lv_aload_n hx hb dX2_digest_44 rfl (lv_at hl 1 rfl) ?_
  have hPc := hP.sub (ws' := [(x, .inr (2, [.ref rg, .ref tr, .ref pn, .int (nI d), .int (nI r), .int ld, .int li, .int tl, .int mo])), (rg, .inr (1, [.ref ro, .ref rl, .int pl])), (ro, .inl (cI, 4, .inl fo)), (rl, .inl (cI, 28, .inl (sh fl)))]) [0, 1, 2, 3] rfl
  have hDc := hD0.sub (ws' := [(x, .inr (2, [.ref rg, .ref tr, .ref pn, .int (nI d), .int (nI r), .int ld, .int li, .int tl, .int mo])), (rg, .inr (1, [.ref ro, .ref rl, .int pl])), (ro, .inl (cI, 4, .inl fo)), (rl, .inl (cI, 28, .inl (sh fl)))]) [0, 1, 2, 3] (by decide) rfl
  have hKc := hK.sub (tys' := [(cI, .int)]) [0] rfl
  refine c_callR (va_runV (As := []) (rest := [.long (mxL (mxL (mxL (mxL 1907 (nI d)) (nI r)) ld) pl)]) ⟨hx, hb, hml, hown, hts⟩ (k_weakestSide l D L0 cI x rg tr pn ro rl d r ld li tl mo pl fo fl hd) (cwV 0 hts gX2_digest_X2_weakestSide rfl rfl rfl (by decide +kernel) ⟨Nat.le_of_ble_eq_true rfl, Nat.le_of_ble_eq_true rfl⟩) ⟨cP_blind, va_recv hKc hPc (ci := 2) (q0 := 0) rfl rfl, cP_of hPc hKc hDc (kE_at hE0 hAL hS)⟩ rfl rfl hl.1 rfl (lv_room (Nat.le_of_ble_eq_true rfl)) dX2_digest_45 ⟨Nat.le_of_ble_eq_true rfl, Nat.le_of_ble_eq_true rfl⟩) ?_
  show W _ _ _ _ _ _ _ _ _ _ _ _ _ _ _ (F0 m 48 ls [.int (nI (wkN (fun k => strS fo pl k ld d r) 4)), .long (mxL (mxL (mxL (mxL 1907 (nI d)) (nI r)) ld) pl)])
  have hPc := hP.sub (ws' := []) [] rfl
  have hDc := hD0.sub (ws' := []) [] (by decide) rfl
  have hKc := hK.sub (tys' := []) [] rfl
  refine c_callR (va_runS (As := [.long (mxL (mxL (mxL (mxL 1907 (nI d)) (nI r)) ld) pl), .int (nI (wkN (fun k => strS fo pl k ld d r) 4))]) (rest := []) ⟨hx, hb, hml, hown, hts⟩ (k_mixed l D L0 (mxL (mxL (mxL (mxL 1907 (nI d)) (nI r)) ld) pl) (nI (wkN (fun k => strS fo pl k ld d r) 4))) (va_cwS 2 hts gX2_digest_X2_mixed rfl rfl rfl (by decide +kernel) ⟨Nat.le_of_ble_eq_true rfl, Nat.le_of_ble_eq_true rfl⟩) ⟨cP_blind, cP_of hPc hKc hDc (kE_at hE0 hAL hS)⟩ rfl rfl hl.1 rfl (lv_room (Nat.le_of_ble_eq_true rfl)) dX2_digest_48 ⟨Nat.le_of_ble_eq_true rfl, Nat.le_of_ble_eq_true rfl⟩) ?_
  show W _ _ _ _ _ _ _ _ _ _ _ _ _ _ _ (F0 m 51 ls [.long (mxL (mxL (mxL (mxL (mxL 1907 (nI d)) (nI r)) ld) pl) (nI (wkN (fun k => strS fo pl k ld d r) 4)))])
  refine lv_lstore_n (lv' := [(1, .long (mxL (mxL (mxL (mxL (mxL 1907 (nI d)) (nI r)) ld) pl) (nI (wkN (fun k => strS fo pl k ld d r) 4)))), (0, .ref x)]) hx hb dX2_digest_51 rfl hl (by decide) rfl (fun ls hl => ?_)
  refine lv_lload_n hx hb dX2_digest_52 rfl (lv_at hl 0 rfl) ?_
  refine lv_aload_n hx hb dX2_digest_53 rfl (lv_at hl 1 rfl) ?_
  refine va_get (D := D) (ci := 2) (v := .int li) (C := RX2) (T := TX2) (N := 9) hx hb hts hiX2 hown hK hP 0 rfl rfl 6 (by decide) (hts (.fieldLink RX2 85 "CraneReach" "lifts" "I") (by decide +kernel)) (fun _ h9 => h9) rfl dX2_digest_54 ?_
  have hPc := hP.sub (ws' := []) [] rfl
  have hDc := hD0.sub (ws' := []) [] (by decide) rfl
  have hKc := hK.sub (tys' := []) [] rfl
  refine c_callR (va_runS (As := [.long (mxL (mxL (mxL (mxL (mxL 1907 (nI d)) (nI r)) ld) pl) (nI (wkN (fun k => strS fo pl k ld d r) 4))), .int li]) (rest := []) ⟨hx, hb, hml, hown, hts⟩ (k_mixed l D L0 (mxL (mxL (mxL (mxL (mxL 1907 (nI d)) (nI r)) ld) pl) (nI (wkN (fun k => strS fo pl k ld d r) 4))) li) (va_cwS 2 hts gX2_digest_X2_mixed rfl rfl rfl (by decide +kernel) ⟨Nat.le_of_ble_eq_true rfl, Nat.le_of_ble_eq_true rfl⟩) ⟨cP_blind, cP_of hPc hKc hDc (kE_at hE0 hAL hS)⟩ rfl rfl hl.1 rfl (lv_room (Nat.le_of_ble_eq_true rfl)) dX2_digest_57 ⟨Nat.le_of_ble_eq_true rfl, Nat.le_of_ble_eq_true rfl⟩) ?_
  show W _ _ _ _ _ _ _ _ _ _ _ _ _ _ _ (F0 m 60 ls [.long (mxL (mxL (mxL (mxL (mxL (mxL 1907 (nI d)) (nI r)) ld) pl) (nI (wkN (fun k => strS fo pl k ld d r) 4))) li)])
  refine lv_lstore_n (lv' := [(1, .long (mxL (mxL (mxL (mxL (mxL (mxL 1907 (nI d)) (nI r)) ld) pl) (nI (wkN (fun k => strS fo pl k ld d r) 4))) li)), (0, .ref x)]) hx hb dX2_digest_60 rfl hl (by decide) rfl (fun ls hl => ?_)
  refine lv_lload_n hx hb dX2_digest_61 rfl (lv_at hl 0 rfl) ?_
  refine lv_aload_n hx hb dX2_digest_62 rfl (lv_at hl 1 rfl) ?_
  refine va_get (D := D) (ci := 2) (v := .int tl) (C := RX2) (T := TX2) (N := 9) hx hb hts hiX2 hown hK hP 0 rfl rfl 7 (by decide) (hts (.fieldLink RX2 88 "CraneReach" "tonsLifted" "I") (by decide +kernel)) (fun _ h9 => h9) rfl dX2_digest_63 ?_
  have hPc := hP.sub (ws' := []) [] rfl
  have hDc := hD0.sub (ws' := []) [] (by decide) rfl
  have hKc := hK.sub (tys' := []) [] rfl
  refine c_callR (va_runS (As := [.long (mxL (mxL (mxL (mxL (mxL (mxL 1907 (nI d)) (nI r)) ld) pl) (nI (wkN (fun k => strS fo pl k ld d r) 4))) li), .int tl]) (rest := []) ⟨hx, hb, hml, hown, hts⟩ (k_mixed l D L0 (mxL (mxL (mxL (mxL (mxL (mxL 1907 (nI d)) (nI r)) ld) pl) (nI (wkN (fun k => strS fo pl k ld d r) 4))) li) tl) (va_cwS 2 hts gX2_digest_X2_mixed rfl rfl rfl (by decide +kernel) ⟨Nat.le_of_ble_eq_true rfl, Nat.le_of_ble_eq_true rfl⟩) ⟨cP_blind, cP_of hPc hKc hDc (kE_at hE0 hAL hS)⟩ rfl rfl hl.1 rfl (lv_room (Nat.le_of_ble_eq_true rfl)) dX2_digest_66 ⟨Nat.le_of_ble_eq_true rfl, Nat.le_of_ble_eq_true rfl⟩) ?_
  show W _ _ _ _ _ _ _ _ _ _ _ _ _ _ _ (F0 m 69 ls [.long (mxL (mxL (mxL (mxL (mxL (mxL (mxL 1907 (nI d)) (nI r)) ld) pl) (nI (wkN (fun k => strS fo pl k ld d r) 4))) li) tl)])
  refine lv_lstore_n (lv' := [(1, .long (mxL (mxL (mxL (mxL (mxL (mxL (mxL 1907 (nI d)) (nI r)) ld) pl) (nI (wkN (fun k => strS fo pl k ld d r) 4))) li) tl)), (0, .ref x)]) hx hb dX2_digest_69 rfl hl (by decide) rfl (fun ls hl => ?_)
  refine lv_lload_n hx hb dX2_digest_70 rfl (lv_at hl 0 rfl) ?_
  refine lv_aload_n hx hb dX2_digest_71 rfl (lv_at hl 1 rfl) ?_
  refine va_get (D := D) (ci := 2) (v := .int mo) (C := RX2) (T := TX2) (N := 9) hx hb hts hiX2 hown hK hP 0 rfl rfl 8 (by decide) (hts (.fieldLink RX2 121 "CraneReach" "movesWithLoad" "I") (by decide +kernel)) (fun _ h9 => h9) rfl dX2_digest_72 ?_
  have hPc := hP.sub (ws' := []) [] rfl
  have hDc := hD0.sub (ws' := []) [] (by decide) rfl
  have hKc := hK.sub (tys' := []) [] rfl
  refine c_callR (va_runS (As := [.long (mxL (mxL (mxL (mxL (mxL (mxL (mxL 1907 (nI d)) (nI r)) ld) pl) (nI (wkN (fun k => strS fo pl k ld d r) 4))) li) tl), .int mo]) (rest := []) ⟨hx, hb, hml, hown, hts⟩ (k_mixed l D L0 (mxL (mxL (mxL (mxL (mxL (mxL (mxL 1907 (nI d)) (nI r)) ld) pl) (nI (wkN (fun k => strS fo pl k ld d r) 4))) li) tl) mo) (va_cwS 2 hts gX2_digest_X2_mixed rfl rfl rfl (by decide +kernel) ⟨Nat.le_of_ble_eq_true rfl, Nat.le_of_ble_eq_true rfl⟩) ⟨cP_blind, cP_of hPc hKc hDc (kE_at hE0 hAL hS)⟩ rfl rfl hl.1 rfl (lv_room (Nat.le_of_ble_eq_true rfl)) dX2_digest_75 ⟨Nat.le_of_ble_eq_true rfl, Nat.le_of_ble_eq_true rfl⟩) ?_
  show W _ _ _ _ _ _ _ _ _ _ _ _ _ _ _ (F0 m 78 ls [.long (mxL (mxL (mxL (mxL (mxL (mxL (mxL (mxL 1907 (nI d)) (nI r)) ld) pl) (nI (wkN (fun k => strS fo pl k ld d r) 4))) li) tl) mo)])
  refine lv_lstore_n (lv' := [(1, .long (mxL (mxL (mxL (mxL (mxL (mxL (mxL (mxL 1907 (nI d)) (nI r)) ld) pl) (nI (wkN (fun k => strS fo pl k ld d r) 4))) li) tl) mo)), (0, .ref x)]) hx hb dX2_digest_78 rfl hl (by decide) rfl (fun ls hl => ?_)
  refine lv_lload_n hx hb dX2_digest_79 rfl (lv_at hl 0 rfl) ?_
  refine lv_aload_n hx hb dX2_digest_80 rfl (lv_at hl 1 rfl) ?_
  have hPc := hP.sub (ws' := [(x, .inr (2, [.ref rg, .ref tr, .ref pn, .int (nI d), .int (nI r), .int ld, .int li, .int tl, .int mo])), (rg, .inr (1, [.ref ro, .ref rl, .int pl])), (ro, .inl (cI, 4, .inl fo)), (rl, .inl (cI, 28, .inl (sh fl)))]) [0, 1, 2, 3] rfl
  have hDc := hD0.sub (ws' := [(x, .inr (2, [.ref rg, .ref tr, .ref pn, .int (nI d), .int (nI r), .int ld, .int li, .int tl, .int mo])), (rg, .inr (1, [.ref ro, .ref rl, .int pl])), (ro, .inl (cI, 4, .inl fo)), (rl, .inl (cI, 28, .inl (sh fl)))]) [0, 1, 2, 3] (by decide) rfl
  have hKc := hK.sub (tys' := [(cI, .int)]) [0] rfl
  refine c_callR (va_runV (As := []) (rest := [.long (mxL (mxL (mxL (mxL (mxL (mxL (mxL (mxL 1907 (nI d)) (nI r)) ld) pl) (nI (wkN (fun k => strS fo pl k ld d r) 4))) li) tl) mo)]) ⟨hx, hb, hml, hown, hts⟩ (k_greatestLoad l D L0 cI x rg tr pn ro rl d r ld li tl mo pl fo fl hd hr) (cwV 0 hts gX2_digest_X2_greatestLoad rfl rfl rfl (by decide +kernel) ⟨Nat.le_of_ble_eq_true rfl, Nat.le_of_ble_eq_true rfl⟩) ⟨cP_blind, va_recv hKc hPc (ci := 2) (q0 := 0) rfl rfl, cP_of hPc hKc hDc (kE_at hE0 hAL hS)⟩ rfl rfl hl.1 rfl (lv_room (Nat.le_of_ble_eq_true rfl)) dX2_digest_81 ⟨Nat.le_of_ble_eq_true rfl, Nat.le_of_ble_eq_true rfl⟩) ?_
  show W _ _ _ _ _ _ _ _ _ _ _ _ _ _ _ (F0 m 84 ls [.int (nI (grN (fun k => safS fo fl pl (nI k) d r) 60)), .long (mxL (mxL (mxL (mxL (mxL (mxL (mxL (mxL 1907 (nI d)) (nI r)) ld) pl) (nI (wkN (fun k => strS fo pl k ld d r) 4))) li) tl) mo)])
  have hPc := hP.sub (ws' := []) [] rfl
  have hDc := hD0.sub (ws' := []) [] (by decide) rfl
  have hKc := hK.sub (tys' := []) [] rfl
  refine c_callR (va_runS (As := [.long (mxL (mxL (mxL (mxL (mxL (mxL (mxL (mxL 1907 (nI d)) (nI r)) ld) pl) (nI (wkN (fun k => strS fo pl k ld d r) 4))) li) tl) mo), .int (nI (grN (fun k => safS fo fl pl (nI k) d r) 60))]) (rest := []) ⟨hx, hb, hml, hown, hts⟩ (k_mixed l D L0 (mxL (mxL (mxL (mxL (mxL (mxL (mxL (mxL 1907 (nI d)) (nI r)) ld) pl) (nI (wkN (fun k => strS fo pl k ld d r) 4))) li) tl) mo) (nI (grN (fun k => safS fo fl pl (nI k) d r) 60))) (va_cwS 2 hts gX2_digest_X2_mixed rfl rfl rfl (by decide +kernel) ⟨Nat.le_of_ble_eq_true rfl, Nat.le_of_ble_eq_true rfl⟩) ⟨cP_blind, cP_of hPc hKc hDc (kE_at hE0 hAL hS)⟩ rfl rfl hl.1 rfl (lv_room (Nat.le_of_ble_eq_true rfl)) dX2_digest_84 ⟨Nat.le_of_ble_eq_true rfl, Nat.le_of_ble_eq_true rfl⟩) ?_
  show W _ _ _ _ _ _ _ _ _ _ _ _ _ _ _ (F0 m 87 ls [.long (mxL (mxL (mxL (mxL (mxL (mxL (mxL (mxL (mxL 1907 (nI d)) (nI r)) ld) pl) (nI (wkN (fun k => strS fo pl k ld d r) 4))) li) tl) mo) (nI (grN (fun k => safS fo fl pl (nI k) d r) 60)))])
  refine lv_lstore_n (lv' := [(1, .long (mxL (mxL (mxL (mxL (mxL (mxL (mxL (mxL (mxL 1907 (nI d)) (nI r)) ld) pl) (nI (wkN (fun k => strS fo pl k ld d r) 4))) li) tl) mo) (nI (grN (fun k => safS fo fl pl (nI k) d r) 60)))), (0, .ref x)]) hx hb dX2_digest_87 rfl hl (by decide) rfl (fun ls hl => ?_)
  refine lv_iconst (v := 0) hx hb dX2_digest_88 (by decide) ?_
  refine lv_istore_n (lv' := [(3, .int 0), (1, .long (mxL (mxL (mxL (mxL (mxL (mxL (mxL (mxL (mxL 1907 (nI d)) (nI r)) ld) pl) (nI (wkN (fun k => strS fo pl k ld d r) 4))) li) tl) mo) (nI (grN (fun k => safS fo fl pl (nI k) d r) 60)))), (0, .ref x)]) hx hb dX2_digest_89 rfl hl (by decide) rfl (fun ls hl => ?_)
  have hl : lv_has ls 4 [(3, .int (nI 0)), (1, .long (mxL (mxL (mxL (mxL (mxL (mxL (mxL (mxL (mxL 1907 (nI d)) (nI r)) ld) pl) (nI (wkN (fun k => strS fo pl k ld d r) 4))) li) tl) mo) (nI (grN (fun k => safS fo fl pl (nI k) d r) 60)))), (0, .ref x)] := (show 0 = nI 0 from rfl) ▸ hl
  have hl : lv_has ls 4 [(3, .int (nI 0)), (1, .long (dgO fo (fun k => strS fo pl k ld d r) 0 (digH d r ld pl (wkN (fun k => strS fo pl k ld d r) 4) li tl mo (grN (fun k => safS fo fl pl (nI k) d r) 60)))), (0, .ref x)] := hl
  exact loop1 4 0 _ (by omega) (lv_sub hl [1, 0, 2] rfl)
