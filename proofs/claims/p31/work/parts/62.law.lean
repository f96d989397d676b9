set_option maxHeartbeats 8000000 in
set_option maxRecDepth 100000 in
/-- the law: the farthest reach -/
theorem law_t3 {p : Program} {l : Launch} {e : Env} {s : State} {m : MethodId} {args : Array Value} {below : List Frame} {meth : Method} {c : Code} {Q : State → Prop} {b L : Nat} {xs : Nat → Int32} {L0 : Nat} {D : va_G} {cI : ClassId} {A : Nat → Prop} {x rg tr pn ro rl t0 t1 pm pf sm so sq : Nat} (C0 : plCtx p l s m args c b L xs L0 D cI A) {t K M : Nat} (hKr : K + 600 ≤ 600130) (hMr : M + 5000 ≤ 7301080) (nx : (∀ (d r : Nat) (ld pl li tl mo : Int32) (fo fl : Nat → Int32) (jp : Int32) (jo jl : Nat → Int32) (jn : Int32) (jm jf : Nat → Int32) (u v w : Nat) (H : Heap) (ls : Array Slot), lpInv d r ld pl fo fl → (u < 20) → (v < 8) → (3 ≤ w ∧ w ≤ 30) → va_P D vwCl [(x, .inr (2, [.ref rg, .ref tr, .ref pn, .int (nI d), .int (nI r), .int ld, .int li, .int tl, .int mo])), (rg, .inr (1, [.ref ro, .ref rl, .int pl])), (ro, .inl (cI, 4, .inl fo)), (rl, .inl (cI, 28, .inl (sh fl))), (tr, .inr (1, [.ref t0, .ref t1, .int jp])), (t0, .inl (cI, 4, .inl jo)), (t1, .inl (cI, 28, .inl jl)), (pn, .inr (0, [.ref pm, .ref pf, .int jn])), (pm, .inl (cI, 224, .inl jm)), (pf, .inl (cI, 224, .inl jf)), (sm, .inr (3, [.int (nI d), .int (nI r), .int ld, .int pl, .ref so, .ref sq, .int li, .int tl, .int mo])), (so, .inl (cI, 4, .inl fo)), (sq, .inl (cI, 31, .inl fl))] H → va_D A [(x, .inr (2, [.ref rg, .ref tr, .ref pn, .int (nI d), .int (nI r), .int ld, .int li, .int tl, .int mo])), (rg, .inr (1, [.ref ro, .ref rl, .int pl])), (ro, .inl (cI, 4, .inl fo)), (rl, .inl (cI, 28, .inl (sh fl))), (tr, .inr (1, [.ref t0, .ref t1, .int jp])), (t0, .inl (cI, 4, .inl jo)), (t1, .inl (cI, 28, .inl jl)), (pn, .inr (0, [.ref pm, .ref pf, .int jn])), (pm, .inl (cI, 224, .inl jm)), (pf, .inl (cI, 224, .inl jf)), (sm, .inr (3, [.int (nI d), .int (nI r), .int ld, .int pl, .ref so, .ref sq, .int li, .int tl, .int mo])), (so, .inl (cI, 4, .inl fo)), (sq, .inl (cI, 31, .inl fl))] → va_S A s.heap H [] → lv_has ls 21 [(0, .ref b), (1, .ref x), (2, .ref sm), (3, .int (nI t)), (5, .long (digS d r ld li tl mo pl fo fl)), (8, .int (nI u)), (9, .int (nI v)), (10, .int (nI w))] → W p l e room_1 s m args below meth c H [] K M Q (F0 m 332 ls []))) : (∀ (d r : Nat) (ld pl li tl mo : Int32) (fo fl : Nat → Int32) (jp : Int32) (jo jl : Nat → Int32) (jn : Int32) (jm jf : Nat → Int32) (xx : Int32) (H : Heap) (ls : Array Slot), lpInv d r ld pl fo fl → va_P D vwCl [(x, .inr (2, [.ref rg, .ref tr, .ref pn, .int (nI d), .int (nI r), .int ld, .int li, .int tl, .int mo])), (rg, .inr (1, [.ref ro, .ref rl, .int pl])), (ro, .inl (cI, 4, .inl fo)), (rl, .inl (cI, 28, .inl (sh fl))), (tr, .inr (1, [.ref t0, .ref t1, .int jp])), (t0, .inl (cI, 4, .inl jo)), (t1, .inl (cI, 28, .inl jl)), (pn, .inr (0, [.ref pm, .ref pf, .int jn])), (pm, .inl (cI, 224, .inl jm)), (pf, .inl (cI, 224, .inl jf)), (sm, .inr (3, [.int (nI d), .int (nI r), .int ld, .int pl, .ref so, .ref sq, .int li, .int tl, .int mo])), (so, .inl (cI, 4, .inl fo)), (sq, .inl (cI, 31, .inl fl))] H → va_D A [(x, .inr (2, [.ref rg, .ref tr, .ref pn, .int (nI d), .int (nI r), .int ld, .int li, .int tl, .int mo])), (rg, .inr (1, [.ref ro, .ref rl, .int pl])), (ro, .inl (cI, 4, .inl fo)), (rl, .inl (cI, 28, .inl (sh fl))), (tr, .inr (1, [.ref t0, .ref t1, .int jp])), (t0, .inl (cI, 4, .inl jo)), (t1, .inl (cI, 28, .inl jl)), (pn, .inr (0, [.ref pm, .ref pf, .int jn])), (pm, .inl (cI, 224, .inl jm)), (pf, .inl (cI, 224, .inl jf)), (sm, .inr (3, [.int (nI d), .int (nI r), .int ld, .int pl, .ref so, .ref sq, .int li, .int tl, .int mo])), (so, .inl (cI, 4, .inl fo)), (sq, .inl (cI, 31, .inl fl))] → va_S A s.heap H [] → lv_has ls 21 [(0, .ref b), (1, .ref x), (2, .ref sm), (3, .int (nI t)), (4, .int xx), (5, .long (digS d r ld li tl mo pl fo fl))] → W p l e room_1 s m args below meth c H [] K M Q (F0 m 221 ls [])) := by
  intro d r ld pl li tl mo fo fl jp jo jl jn jm jf xx H ls hI  hP hD hS hl
  obtain ⟨hx, hb, hml, hown, hts, hX, hbl, hL0, hK, hE0, hfl, hAOA, hA2⟩ := id C0
  have hAL : ∀ z9 : Nat, A z9 → L0 ≤ z9 := fun z9 h9 => (hA2 z9).mp h9
  have hA : ∀ z9 : Nat, s.heap.size ≤ z9 → A z9 := fun z9 h9 => (hA2 z9).mpr (hL0 ▸ h9)
  obtain ⟨hd, hr, ⟨kl, hkl, ekl⟩, hsf, ⟨kp, hkp, ekp⟩⟩ := id hI
  refine lv_iload hx hb dL_law_221 (lv_at hl 4 rfl) ?_
  refine lv_iconst (v := 4) hx hb dL_law_223 (by decide) ?_
  refine lv_ishr hx hb dL_law_224 ?_
  refine lv_bipush (v := 20) hx hb dL_law_225 (by decide) ?_
  have hPc := hP.sub (ws' := []) [] rfl
  have hDc : va_D (fun q : Nat => L0 ≤ q) [] := (hD.sub (ws' := []) [] (by decide) rfl).weaken (fun _ z9 _ h9 => hAL _ h9)
  have hKc := hK.sub (tys' := []) [] rfl
  refine c_callR (va_runS (As := [.int (xx >>> (4 &&& 31)), .int 20]) (rest := []) ⟨hx, hb, hml, hown, hts⟩ (l_below l D L0 (xx >>> (4 &&& 31)) 20 (by decide)) (va_cwS 2 hts gL_law_L_below rfl rfl rfl (by decide +kernel) ⟨Nat.le_of_ble_eq_true rfl, Nat.le_of_ble_eq_true rfl⟩) ⟨cP_blind, cP_of hPc hKc hDc (kE_at hE0 hAL hS)⟩ rfl rfl hl.1 rfl (lv_room (Nat.le_of_ble_eq_true rfl)) dL_law_227 ⟨by show K + 0 ≤ 600130; omega, by show M + 0 ≤ 7301080; omega⟩) ?_
  show W _ _ _ _ _ _ _ _ _ _ _ _ _ _ _ (F0 m 230 ls [.int (blI (xx >>> (4 &&& 31)) 20)])
  obtain ⟨u, hu, eu⟩ := blI_nI (xx >>> (4 &&& 31)) (n := 20) (by decide) (by decide)
  refine c_top (show (blI (xx >>> (4 &&& 31)) 20) = nI u from eu) ?_
  refine lv_istore (lv' := [(8, .int (nI u)), (0, .ref b), (1, .ref x), (2, .ref sm), (3, .int (nI t)), (4, .int xx), (5, .long (digS d r ld li tl mo pl fo fl))]) hx hb dL_law_230 hl (by decide) rfl (fun ls hl => ?_)
  refine lv_iload hx hb dL_law_232 (lv_at hl 5 rfl) ?_
  refine lv_iconst (v := 5) hx hb dL_law_234 (by decide) ?_
  refine lv_ishr hx hb dL_law_235 ?_
  refine lv_bipush (v := 8) hx hb dL_law_236 (by decide) ?_
  have hPc := hP.sub (ws' := []) [] rfl
  have hDc : va_D (fun q : Nat => L0 ≤ q) [] := (hD.sub (ws' := []) [] (by decide) rfl).weaken (fun _ z9 _ h9 => hAL _ h9)
  have hKc := hK.sub (tys' := []) [] rfl
  refine c_callR (va_runS (As := [.int (xx >>> (5 &&& 31)), .int 8]) (rest := []) ⟨hx, hb, hml, hown, hts⟩ (l_below l D L0 (xx >>> (5 &&& 31)) 8 (by decide)) (va_cwS 2 hts gL_law_L_below rfl rfl rfl (by decide +kernel) ⟨Nat.le_of_ble_eq_true rfl, Nat.le_of_ble_eq_true rfl⟩) ⟨cP_blind, cP_of hPc hKc hDc (kE_at hE0 hAL hS)⟩ rfl rfl hl.1 rfl (lv_room (Nat.le_of_ble_eq_true rfl)) dL_law_238 ⟨by show K + 0 ≤ 600130; omega, by show M + 0 ≤ 7301080; omega⟩) ?_
  show W _ _ _ _ _ _ _ _ _ _ _ _ _ _ _ (F0 m 241 ls [.int (blI (xx >>> (5 &&& 31)) 8)])
  obtain ⟨v, hv, ev⟩ := blI_nI (xx >>> (5 &&& 31)) (n := 8) (by decide) (by decide)
  refine c_top (show (blI (xx >>> (5 &&& 31)) 8) = nI v from ev) ?_
  refine lv_istore (lv' := [(9, .int (nI v)), (8, .int (nI u)), (0, .ref b), (1, .ref x), (2, .ref sm), (3, .int (nI t)), (4, .int xx), (5, .long (digS d r ld li tl mo pl fo fl))]) hx hb dL_law_241 hl (by decide) rfl (fun ls hl => ?_)
  refine lv_iconst (v := 3) hx hb dL_law_243 (by decide) ?_
  refine lv_iload hx hb dL_law_244 (lv_at hl 6 rfl) ?_
  refine lv_bipush (v := 6) hx hb dL_law_246 (by decide) ?_
  refine lv_ishr hx hb dL_law_248 ?_
  refine lv_bipush (v := 28) hx hb dL_law_249 (by decide) ?_
  have hPc := hP.sub (ws' := []) [] rfl
  have hDc : va_D (fun q : Nat => L0 ≤ q) [] := (hD.sub (ws' := []) [] (by decide) rfl).weaken (fun _ z9 _ h9 => hAL _ h9)
  have hKc := hK.sub (tys' := []) [] rfl
  refine c_callR (va_runS (As := [.int (xx >>> (6 &&& 31)), .int 28]) (rest := [.int 3]) ⟨hx, hb, hml, hown, hts⟩ (l_below l D L0 (xx >>> (6 &&& 31)) 28 (by decide)) (va_cwS 2 hts gL_law_L_below rfl rfl rfl (by decide +kernel) ⟨Nat.le_of_ble_eq_true rfl, Nat.le_of_ble_eq_true rfl⟩) ⟨cP_blind, cP_of hPc hKc hDc (kE_at hE0 hAL hS)⟩ rfl rfl hl.1 rfl (lv_room (Nat.le_of_ble_eq_true rfl)) dL_law_251 ⟨by show K + 0 ≤ 600130; omega, by show M + 0 ≤ 7301080; omega⟩) ?_
  show W _ _ _ _ _ _ _ _ _ _ _ _ _ _ _ (F0 m 254 ls [.int (blI (xx >>> (6 &&& 31)) 28), .int 3])
  obtain ⟨w0, hw0, ew0⟩ := blI_nI (xx >>> (6 &&& 31)) (n := 28) (by decide) (by decide)
  refine c_top (show (blI (xx >>> (6 &&& 31)) 28) = nI w0 from ew0) ?_
  refine lv_iadd hx hb dL_law_254 ?_
  refine c_top (show (3 + (nI w0)) = nI (3 + w0) from nI_add 3 w0) ?_
  obtain ⟨w, hw, ew⟩ : ∃ w : Nat, (3 ≤ w ∧ w ≤ 30) ∧ nI (3 + w0) = nI w := ⟨3 + w0, by omega, rfl⟩
  refine c_top (show (nI (3 + w0)) = nI w from ew) ?_
  have hu60 : (0 : Int32) ≤ nI u ∧ nI u ≤ 60 := ⟨nI_le (a := 0) (Nat.zero_le _) (by omega), nI_le (b := 60) (by omega) (by decide)⟩
  refine lv_istore (lv' := [(10, .int (nI w)), (9, .int (nI v)), (8, .int (nI u)), (0, .ref b), (1, .ref x), (2, .ref sm), (3, .int (nI t)), (4, .int xx), (5, .long (digS d r ld li tl mo pl fo fl))]) hx hb dL_law_255 hl (by decide) rfl (fun ls hl => ?_)
  refine lv_aload_n hx hb dL_law_257 rfl (lv_at hl 4 rfl) ?_
  refine lv_iload hx hb dL_law_258 (lv_at hl 2 rfl) ?_
  refine lv_iload hx hb dL_law_260 (lv_at hl 1 rfl) ?_
  have hPc := hP.sub (ws' := [(x, .inr (2, [.ref rg, .ref tr, .ref pn, .int (nI d), .int (nI r), .int ld, .int li, .int tl, .int mo])), (rg, .inr (1, [.ref ro, .ref rl, .int pl])), (ro, .inl (cI, 4, .inl fo)), (rl, .inl (cI, 28, .inl (sh fl)))]) [0, 1, 2, 3] rfl
  have hDc : va_D (fun q : Nat => L0 ≤ q) [(x, .inr (2, [.ref rg, .ref tr, .ref pn, .int (nI d), .int (nI r), .int ld, .int li, .int tl, .int mo])), (rg, .inr (1, [.ref ro, .ref rl, .int pl])), (ro, .inl (cI, 4, .inl fo)), (rl, .inl (cI, 28, .inl (sh fl)))] := (hD.sub (ws' := [(x, .inr (2, [.ref rg, .ref tr, .ref pn, .int (nI d), .int (nI r), .int ld, .int li, .int tl, .int mo])), (rg, .inr (1, [.ref ro, .ref rl, .int pl])), (ro, .inl (cI, 4, .inl fo)), (rl, .inl (cI, 28, .inl (sh fl)))]) [0, 1, 2, 3] (by decide) rfl).weaken (fun _ z9 _ h9 => hAL _ h9)
  have hKc := hK.sub (tys' := [(cI, .int)]) [0] rfl
  refine c_callR (va_runV (As := [.int (nI u), .int (nI v)]) (rest := []) ⟨hx, hb, hml, hown, hts⟩ (k_farthestReach_ok l D L0 cI x rg tr pn ro rl d r ld li tl mo pl fo fl (nI u) hu60 v hv) (cwV 2 hts gL_law_X2_farthestReach rfl rfl rfl (by decide +kernel) ⟨Nat.le_of_ble_eq_true rfl, Nat.le_of_ble_eq_true rfl⟩) ⟨cP_blind, va_recv hKc hPc (ci := 2) (q0 := 0) rfl rfl, cP_of hPc hKc hDc (kE_at hE0 hAL hS)⟩ rfl rfl hl.1 rfl (lv_room (Nat.le_of_ble_eq_true rfl)) dL_law_262 ⟨by show K + 0 ≤ 600130; omega, by show M + 0 ≤ 7301080; omega⟩) ?_
  show W _ _ _ _ _ _ _ _ _ _ _ _ _ _ _ (F0 m 265 ls [.int (faI (faN (fun k => safS fo fl pl (nI u) v k) 28 3))])
  obtain ⟨f1, f2, f3, f4⟩ := faN_spec (sf := (fun k => safS fo fl pl (nI u) v k)) (n := 28) (r := 3)
  obtain ⟨fe, hfe⟩ : ∃ z9 : Nat, faN (fun k => safS fo fl pl (nI u) v k) 28 3 = z9 := ⟨_, rfl⟩
  rw [hfe] at f1 f2 f3 f4
  refine c_top (show (faI (faN (fun k => safS fo fl pl (nI u) v k) 28 3)) = faI fe from by rw [hfe]) ?_
  by_cases he : fe = 3
  · refine c_top (show (faI fe) = -1 from by rw [faI, if_pos he]) ?_
    refine lv_istore (lv' := [(11, .int (-1)), (10, .int (nI w)), (9, .int (nI v)), (8, .int (nI u)), (0, .ref b), (1, .ref x), (2, .ref sm), (3, .int (nI t)), (4, .int xx), (5, .long (digS d r ld li tl mo pl fo fl))]) hx hb dL_law_265 hl (by decide) rfl (fun ls hl => ?_)
    refine lv_iload hx hb dL_law_267 (lv_at hl 0 rfl) ?_
    refine lv_iconst (v := 3) hx hb dL_law_269 (by decide) ?_
    refine lv_icmp_lt (tgt := 286) hx hb dL_law_270 (by decide) (fun _ => ?_) (fun c_15 => absurd (by decide) c_15)
    refine lv_iload hx hb dL_law_286 (lv_at hl 0 rfl) ?_
    refine lv_bipush (v := 30) hx hb dL_law_288 (by decide) ?_
    refine lv_icmp_ge (tgt := 318) hx hb dL_law_290 (by decide) (fun c_16 => absurd c_16 (by decide)) (fun _ => ?_)
    refine lv_aload_n hx hb dL_law_293 rfl (lv_at hl 5 rfl) ?_
    refine lv_iload hx hb dL_law_294 (lv_at hl 3 rfl) ?_
    refine lv_iload hx hb dL_law_296 (lv_at hl 2 rfl) ?_
    refine lv_iload hx hb dL_law_298 (lv_at hl 0 rfl) ?_
    refine lv_iconst (v := 3) hx hb dL_law_300 (by decide) ?_
    refine lv_icmp_ge (tgt := 308) hx hb dL_law_301 (by decide) (fun c_17 => absurd c_17 (by decide)) (fun _ => ?_)
    refine lv_iconst (v := 3) hx hb dL_law_304 (by decide) ?_
    refine lv_goto (tgt := 312) hx hb dL_law_305 (by decide) ?_
    refine c_top (show (3) = nI 3 from rfl) ?_
    have hPc := hP.sub (ws' := [(x, .inr (2, [.ref rg, .ref tr, .ref pn, .int (nI d), .int (nI r), .int ld, .int li, .int tl, .int mo])), (rg, .inr (1, [.ref ro, .ref rl, .int pl])), (ro, .inl (cI, 4, .inl fo)), (rl, .inl (cI, 28, .inl (sh fl)))]) [0, 1, 2, 3] rfl
    have hDc : va_D (fun q : Nat => L0 ≤ q) [(x, .inr (2, [.ref rg, .ref tr, .ref pn, .int (nI d), .int (nI r), .int ld, .int li, .int tl, .int mo])), (rg, .inr (1, [.ref ro, .ref rl, .int pl])), (ro, .inl (cI, 4, .inl fo)), (rl, .inl (cI, 28, .inl (sh fl)))] := (hD.sub (ws' := [(x, .inr (2, [.ref rg, .ref tr, .ref pn, .int (nI d), .int (nI r), .int ld, .int li, .int tl, .int mo])), (rg, .inr (1, [.ref ro, .ref rl, .int pl])), (ro, .inl (cI, 4, .inl fo)), (rl, .inl (cI, 28, .inl (sh fl)))]) [0, 1, 2, 3] (by decide) rfl).weaken (fun _ z9 _ h9 => hAL _ h9)
    have hKc := hK.sub (tys' := [(cI, .int)]) [0] rfl
    refine c_callR (va_runV (As := [.int (nI u), .int (nI v), .int (nI 3)]) (rest := []) ⟨hx, hb, hml, hown, hts⟩ (k_isSafeWith_ok l D L0 cI x rg tr pn ro rl d r ld li tl mo pl fo fl (nI u) hu60 v hv 3 (⟨by decide, by decide⟩)) (cwV 3 hts gL_law_X2_isSafeWith rfl rfl rfl (by decide +kernel) ⟨Nat.le_of_ble_eq_true rfl, Nat.le_of_ble_eq_true rfl⟩) ⟨cP_blind, va_recv hKc hPc (ci := 2) (q0 := 0) rfl rfl, cP_of hPc hKc hDc (kE_at hE0 hAL hS)⟩ rfl rfl hl.1 rfl (lv_room (Nat.le_of_ble_eq_true rfl)) dL_law_312 ⟨by show K + 0 ≤ 600130; omega, by show M + 0 ≤ 7301080; omega⟩) ?_
    show W _ _ _ _ _ _ _ _ _ _ _ _ _ _ _ (F0 m 315 ls [.int (bI (safS fo fl pl (nI u) v 3))])
    refine c_top (show (bI (safS fo fl pl (nI u) v 3)) = 0 from by rw [show safS fo fl pl (nI u) v 3 = false from by have y := f4 (by omega); rw [he] at y; exact y]; rfl) ?_
    refine lv_if_ne (tgt := 330) hx hb dL_law_315 (by decide) (fun c_18 => absurd (rfl) c_18) (fun _ => ?_)
    refine lv_iload hx hb dL_law_318 (lv_at hl 0 rfl) ?_
    refine lv_iconst (v := -1) hx hb dL_law_320 (by decide) ?_
    refine lv_icmp_eq (tgt := 332) hx hb dL_law_321 (by decide) (fun _ => ?_) (fun c_19 => absurd (rfl) c_19)
    refine va_forget (fun z9 hz => by rw [hL0]; exact (hA2 _).mp (hS.2.2 z9 hz)) ?_
    exact nx d r ld pl li tl mo fo fl jp jo jl jn jm jf u v w H ls hI hu hv hw hP hD ⟨hS.1, hS.2.1, fun _ hz => absurd hz List.not_mem_nil⟩ (lv_sub hl [4, 5, 6, 7, 9, 3, 2, 1] rfl)
  · obtain ⟨fr, hfr, efr⟩ : ∃ fr : Nat, (3 ≤ fr ∧ fr ≤ 30) ∧ fe = fr + 1 := ⟨fe - 1, by omega, by omega⟩
    refine c_top (show (faI fe) = nI fr from by rw [faI, if_neg he, efr]; rfl) ?_
    refine lv_istore (lv' := [(11, .int (nI fr)), (10, .int (nI w)), (9, .int (nI v)), (8, .int (nI u)), (0, .ref b), (1, .ref x), (2, .ref sm), (3, .int (nI t)), (4, .int xx), (5, .long (digS d r ld li tl mo pl fo fl))]) hx hb dL_law_265 hl (by decide) rfl (fun ls hl => ?_)
    refine lv_iload hx hb dL_law_267 (lv_at hl 0 rfl) ?_
    refine lv_iconst (v := 3) hx hb dL_law_269 (by decide) ?_
    refine lv_icmp_lt (tgt := 286) hx hb dL_law_270 (by decide) (fun c_20 => absurd c_20 (Int32.not_lt.mpr (nI_le (a := 3) hfr.1 (by omega)))) (fun _ => ?_)
    refine lv_aload_n hx hb dL_law_273 rfl (lv_at hl 5 rfl) ?_
    refine lv_iload hx hb dL_law_274 (lv_at hl 3 rfl) ?_
    refine lv_iload hx hb dL_law_276 (lv_at hl 2 rfl) ?_
    refine lv_iload hx hb dL_law_278 (lv_at hl 0 rfl) ?_
    have hPc := hP.sub (ws' := [(x, .inr (2, [.ref rg, .ref tr, .ref pn, .int (nI d), .int (nI r), .int ld, .int li, .int tl, .int mo])), (rg, .inr (1, [.ref ro, .ref rl, .int pl])), (ro, .inl (cI, 4, .inl fo)), (rl, .inl (cI, 28, .inl (sh fl)))]) [0, 1, 2, 3] rfl
    have hDc : va_D (fun q : Nat => L0 ≤ q) [(x, .inr (2, [.ref rg, .ref tr, .ref pn, .int (nI d), .int (nI r), .int ld, .int li, .int tl, .int mo])), (rg, .inr (1, [.ref ro, .ref rl, .int pl])), (ro, .inl (cI, 4, .inl fo)), (rl, .inl (cI, 28, .inl (sh fl)))] := (hD.sub (ws' := [(x, .inr (2, [.ref rg, .ref tr, .ref pn, .int (nI d), .int (nI r), .int ld, .int li, .int tl, .int mo])), (rg, .inr (1, [.ref ro, .ref rl, .int pl])), (ro, .inl (cI, 4, .inl fo)), (rl, .inl (cI, 28, .inl (sh fl)))]) [0, 1, 2, 3] (by decide) rfl).weaken (fun _ z9 _ h9 => hAL _ h9)
    have hKc := hK.sub (tys' := [(cI, .int)]) [0] rfl
    refine c_callR (va_runV (As := [.int (nI u), .int (nI v), .int (nI fr)]) (rest := []) ⟨hx, hb, hml, hown, hts⟩ (k_isSafeWith_ok l D L0 cI x rg tr pn ro rl d r ld li tl mo pl fo fl (nI u) hu60 v hv fr hfr) (cwV 3 hts gL_law_X2_isSafeWith rfl rfl rfl (by decide +kernel) ⟨Nat.le_of_ble_eq_true rfl, Nat.le_of_ble_eq_true rfl⟩) ⟨cP_blind, va_recv hKc hPc (ci := 2) (q0 := 0) rfl rfl, cP_of hPc hKc hDc (kE_at hE0 hAL hS)⟩ rfl rfl hl.1 rfl (lv_room (Nat.le_of_ble_eq_true rfl)) dL_law_280 ⟨by show K + 0 ≤ 600130; omega, by show M + 0 ≤ 7301080; omega⟩) ?_
    show W _ _ _ _ _ _ _ _ _ _ _ _ _ _ _ (F0 m 283 ls [.int (bI (safS fo fl pl (nI u) v fr))])
    refine c_top (show (bI (safS fo fl pl (nI u) v fr)) = 1 from by rw [show safS fo fl pl (nI u) v fr = true from f3 fr hfr.1 (by omega)]; rfl) ?_
    refine lv_if_eq (tgt := 330) hx hb dL_law_283 (by decide) (fun c_21 => absurd c_21 (by decide)) (fun _ => ?_)
    refine lv_iload hx hb dL_law_286 (lv_at hl 0 rfl) ?_
    refine lv_bipush (v := 30) hx hb dL_law_288 (by decide) ?_
    refine lv_icmp_ge (tgt := 318) hx hb dL_law_290 (by decide) (fun c_22 => ?_) (fun c_22 => ?_)
    · refine lv_iload hx hb dL_law_318 (lv_at hl 0 rfl) ?_
      refine lv_iconst (v := -1) hx hb dL_law_320 (by decide) ?_
      refine lv_icmp_eq (tgt := 332) hx hb dL_law_321 (by decide) (fun c_23 => absurd c_23 (nI_nm1 (by omega))) (fun _ => ?_)
      refine lv_iload hx hb dL_law_324 (lv_at hl 0 rfl) ?_
      refine lv_iconst (v := 3) hx hb dL_law_326 (by decide) ?_
      refine lv_icmp_ge (tgt := 332) hx hb dL_law_327 (by decide) (fun _ => ?_) (fun c_24 => absurd (nI_le (a := 3) hfr.1 (by omega)) c_24)
      refine va_forget (fun z9 hz => by rw [hL0]; exact (hA2 _).mp (hS.2.2 z9 hz)) ?_
      exact nx d r ld pl li tl mo fo fl jp jo jl jn jm jf u v w H ls hI hu hv hw hP hD ⟨hS.1, hS.2.1, fun _ hz => absurd hz List.not_mem_nil⟩ (lv_sub hl [4, 5, 6, 7, 9, 3, 2, 1] rfl)
    · have h30 : fr < 30 := by
        rcases Nat.lt_or_ge fr 30 with y | y
        · exact y
        · exact absurd (nI_le (a := 30) y (by omega)) c_22
      refine lv_aload_n hx hb dL_law_293 rfl (lv_at hl 5 rfl) ?_
      refine lv_iload hx hb dL_law_294 (lv_at hl 3 rfl) ?_
      refine lv_iload hx hb dL_law_296 (lv_at hl 2 rfl) ?_
      refine lv_iload hx hb dL_law_298 (lv_at hl 0 rfl) ?_
      refine lv_iconst (v := 3) hx hb dL_law_300 (by decide) ?_
      refine lv_icmp_ge (tgt := 308) hx hb dL_law_301 (by decide) (fun _ => ?_) (fun c_25 => absurd (nI_le (a := 3) hfr.1 (by omega)) c_25)
      refine lv_iload hx hb dL_law_308 (lv_at hl 0 rfl) ?_
      refine lv_iconst (v := 1) hx hb dL_law_310 (by decide) ?_
      refine lv_iadd hx hb dL_law_311 ?_
      refine c_top (show ((nI fr) + 1) = nI (fr + 1) from nI_1 fr) ?_
      have hPc := hP.sub (ws' := [(x, .inr (2, [.ref rg, .ref tr, .ref pn, .int (nI d), .int (nI r), .int ld, .int li, .int tl, .int mo])), (rg, .inr (1, [.ref ro, .ref rl, .int pl])), (ro, .inl (cI, 4, .inl fo)), (rl, .inl (cI, 28, .inl (sh fl)))]) [0, 1, 2, 3] rfl
      have hDc : va_D (fun q : Nat => L0 ≤ q) [(x, .inr (2, [.ref rg, .ref tr, .ref pn, .int (nI d), .int (nI r), .int ld, .int li, .int tl, .int mo])), (rg, .inr (1, [.ref ro, .ref rl, .int pl])), (ro, .inl (cI, 4, .inl fo)), (rl, .inl (cI, 28, .inl (sh fl)))] := (hD.sub (ws' := [(x, .inr (2, [.ref rg, .ref tr, .ref pn, .int (nI d), .int (nI r), .int ld, .int li, .int tl, .int mo])), (rg, .inr (1, [.ref ro, .ref rl, .int pl])), (ro, .inl (cI, 4, .inl fo)), (rl, .inl (cI, 28, .inl (sh fl)))]) [0, 1, 2, 3] (by decide) rfl).weaken (fun _ z9 _ h9 => hAL _ h9)
      have hKc := hK.sub (tys' := [(cI, .int)]) [0] rfl
      refine c_callR (va_runV (As := [.int (nI u), .int (nI v), .int (nI (fr + 1))]) (rest := []) ⟨hx, hb, hml, hown, hts⟩ (k_isSafeWith_ok l D L0 cI x rg tr pn ro rl d r ld li tl mo pl fo fl (nI u) hu60 v hv (fr + 1) (⟨by omega, by omega⟩)) (cwV 3 hts gL_law_X2_isSafeWith rfl rfl rfl (by decide +kernel) ⟨Nat.le_of_ble_eq_true rfl, Nat.le_of_ble_eq_true rfl⟩) ⟨cP_blind, va_recv hKc hPc (ci := 2) (q0 := 0) rfl rfl, cP_of hPc hKc hDc (kE_at hE0 hAL hS)⟩ rfl rfl hl.1 rfl (lv_room (Nat.le_of_ble_eq_true rfl)) dL_law_312 ⟨by show K + 0 ≤ 600130; omega, by show M + 0 ≤ 7301080; omega⟩) ?_
      show W _ _ _ _ _ _ _ _ _ _ _ _ _ _ _ (F0 m 315 ls [.int (bI (safS fo fl pl (nI u) v (fr + 1)))])
      refine c_top (show (bI (safS fo fl pl (nI u) v (fr + 1))) = 0 from by rw [show safS fo fl pl (nI u) v (fr + 1) = false from by have y := f4 (by omega); rw [efr] at y; exact y]; rfl) ?_
      refine lv_if_ne (tgt := 330) hx hb dL_law_315 (by decide) (fun c_26 => absurd (rfl) c_26) (fun _ => ?_)
      refine lv_iload hx hb dL_law_318 (lv_at hl 0 rfl) ?_
      refine lv_iconst (v := -1) hx hb dL_law_320 (by decide) ?_
      refine lv_icmp_eq (tgt := 332) hx hb dL_law_321 (by decide) (fun c_27 => absurd c_27 (nI_nm1 (by omega))) (fun _ => ?_)
      refine lv_iload hx hb dL_law_324 (lv_at hl 0 rfl) ?_
      refine lv_iconst (v := 3) hx hb dL_law_326 (by decide) ?_
      refine lv_icmp_ge (tgt := 332) hx hb dL_law_327 (by decide) (fun _ => ?_) (fun c_28 => absurd (nI_le (a := 3) hfr.1 (by omega)) c_28)
      refine va_forget (fun z9 hz => by rw [hL0]; exact (hA2 _).mp (hS.2.2 z9 hz)) ?_
      exact nx d r ld pl li tl mo fo fl jp jo jl jn jm jf u v w H ls hI hu hv hw hP hD ⟨hS.1, hS.2.1, fun _ hz => absurd hz List.not_mem_nil⟩ (lv_sub hl [4, 5, 6, 7, 9, 3, 2, 1] rfl)
