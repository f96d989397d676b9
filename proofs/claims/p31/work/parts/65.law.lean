theorem n_lt (j : Nat) (h : j ≤ 224) : j < 2 ^ 31 := by omega
set_option maxHeartbeats 8000000 in
set_option maxRecDepth 100000 in
/-- the law: the table is looked at -/
theorem law_t6 {p : Program} {l : Launch} {e : Env} {s : State} {m : MethodId} {args : Array Value} {below : List Frame} {meth : Method} {c : Code} {Q : State → Prop} {b L : Nat} {xs : Nat → Int32} {L0 : Nat} {D : va_G} {cI : ClassId} {A : Nat → Prop} {x rg tr pn ro rl t0 t1 pm pf sm so sq : Nat} (C0 : plCtx p l s m args c b L xs L0 D cI A) {t K M : Nat} (hKr : K + 600 ≤ 600130) (hMr : M + 5000 ≤ 7301080) (nx : (∀ (d r : Nat) (ld pl li tl mo : Int32) (fo fl : Nat → Int32) (jp : Int32) (jo jl : Nat → Int32) (jn : Int32) (jm jf : Nat → Int32) (u ct : Nat) (H : Heap) (ls : Array Slot), lpInv d r ld pl fo fl → (u < 20) → (ct = ctT (goS (safS fo fl pl (nI u)) d r) 8) → va_P D vwCl [(x, .inr (2, [.ref rg, .ref tr, .ref pn, .int (nI d), .int (nI r), .int ld, .int li, .int tl, .int mo])), (rg, .inr (1, [.ref ro, .ref rl, .int pl])), (ro, .inl (cI, 4, .inl fo)), (rl, .inl (cI, 28, .inl (sh fl))), (tr, .inr (1, [.ref t0, .ref t1, .int jp])), (t0, .inl (cI, 4, .inl jo)), (t1, .inl (cI, 28, .inl jl)), (pn, .inr (0, [.ref pm, .ref pf, .int jn])), (pm, .inl (cI, 224, .inl jm)), (pf, .inl (cI, 224, .inl jf)), (sm, .inr (3, [.int (nI d), .int (nI r), .int ld, .int pl, .ref so, .ref sq, .int li, .int tl, .int mo])), (so, .inl (cI, 4, .inl fo)), (sq, .inl (cI, 31, .inl fl))] H → va_D A [(x, .inr (2, [.ref rg, .ref tr, .ref pn, .int (nI d), .int (nI r), .int ld, .int li, .int tl, .int mo])), (rg, .inr (1, [.ref ro, .ref rl, .int pl])), (ro, .inl (cI, 4, .inl fo)), (rl, .inl (cI, 28, .inl (sh fl))), (tr, .inr (1, [.ref t0, .ref t1, .int jp])), (t0, .inl (cI, 4, .inl jo)), (t1, .inl (cI, 28, .inl jl)), (pn, .inr (0, [.ref pm, .ref pf, .int jn])), (pm, .inl (cI, 224, .inl jm)), (pf, .inl (cI, 224, .inl jf)), (sm, .inr (3, [.int (nI d), .int (nI r), .int ld, .int pl, .ref so, .ref sq, .int li, .int tl, .int mo])), (so, .inl (cI, 4, .inl fo)), (sq, .inl (cI, 31, .inl fl))] → va_S A s.heap H [] → lv_has ls 21 [(0, .ref b), (1, .ref x), (2, .ref sm), (3, .int (nI t)), (5, .long (digS d r ld li tl mo pl fo fl)), (8, .int (nI u)), (14, .int (nI ct))] → W p l e room_1 s m args below meth c H [] K M Q (F0 m 799 ls []))) : (∀ (d r : Nat) (ld pl li tl mo : Int32) (fo fl : Nat → Int32) (jp : Int32) (jo jl : Nat → Int32) (jn : Int32) (jm jf : Nat → Int32) (u q : Nat) (rr : Nat → Nat) (cA : ClassId) (g : Nat → Nat → Int32) (H : Heap) (ls : Array Slot), lpInv d r ld pl fo fl → (u < 20) → (va_K D vwCl [(cI, .int), (cA, .array .int)] s) → (∀ j, j < 8 → ∀ o, o < 32 → g j o = awN (goS (safS fo fl pl (nI u)) d r) j o) → va_P D vwCl [(x, .inr (2, [.ref rg, .ref tr, .ref pn, .int (nI d), .int (nI r), .int ld, .int li, .int tl, .int mo])), (rg, .inr (1, [.ref ro, .ref rl, .int pl])), (ro, .inl (cI, 4, .inl fo)), (rl, .inl (cI, 28, .inl (sh fl))), (tr, .inr (1, [.ref t0, .ref t1, .int jp])), (t0, .inl (cI, 4, .inl jo)), (t1, .inl (cI, 28, .inl jl)), (pn, .inr (0, [.ref pm, .ref pf, .int jn])), (pm, .inl (cI, 224, .inl jm)), (pf, .inl (cI, 224, .inl jf)), (sm, .inr (3, [.int (nI d), .int (nI r), .int ld, .int pl, .ref so, .ref sq, .int li, .int tl, .int mo])), (so, .inl (cI, 4, .inl fo)), (sq, .inl (cI, 31, .inl fl)), (q, .inl (cA, 8, .inr (.inr (.inr (.inr (fun i => if i < 8 then some (rr i) else none)))))), ((rr 0), .inl (cI, 32, .inl (g 0))), ((rr 1), .inl (cI, 32, .inl (g 1))), ((rr 2), .inl (cI, 32, .inl (g 2))), ((rr 3), .inl (cI, 32, .inl (g 3))), ((rr 4), .inl (cI, 32, .inl (g 4))), ((rr 5), .inl (cI, 32, .inl (g 5))), ((rr 6), .inl (cI, 32, .inl (g 6))), ((rr 7), .inl (cI, 32, .inl (g 7)))] H → va_D A [(x, .inr (2, [.ref rg, .ref tr, .ref pn, .int (nI d), .int (nI r), .int ld, .int li, .int tl, .int mo])), (rg, .inr (1, [.ref ro, .ref rl, .int pl])), (ro, .inl (cI, 4, .inl fo)), (rl, .inl (cI, 28, .inl (sh fl))), (tr, .inr (1, [.ref t0, .ref t1, .int jp])), (t0, .inl (cI, 4, .inl jo)), (t1, .inl (cI, 28, .inl jl)), (pn, .inr (0, [.ref pm, .ref pf, .int jn])), (pm, .inl (cI, 224, .inl jm)), (pf, .inl (cI, 224, .inl jf)), (sm, .inr (3, [.int (nI d), .int (nI r), .int ld, .int pl, .ref so, .ref sq, .int li, .int tl, .int mo])), (so, .inl (cI, 4, .inl fo)), (sq, .inl (cI, 31, .inl fl)), (q, .inl (cA, 8, .inr (.inr (.inr (.inr (fun i => if i < 8 then some (rr i) else none)))))), ((rr 0), .inl (cI, 32, .inl (g 0))), ((rr 1), .inl (cI, 32, .inl (g 1))), ((rr 2), .inl (cI, 32, .inl (g 2))), ((rr 3), .inl (cI, 32, .inl (g 3))), ((rr 4), .inl (cI, 32, .inl (g 4))), ((rr 5), .inl (cI, 32, .inl (g 5))), ((rr 6), .inl (cI, 32, .inl (g 6))), ((rr 7), .inl (cI, 32, .inl (g 7)))] → va_S A s.heap H [] → lv_has ls 21 [(0, .ref b), (1, .ref x), (2, .ref sm), (3, .int (nI t)), (5, .long (digS d r ld li tl mo pl fo fl)), (8, .int (nI u)), (14, .int 0), (15, .ref q)] → W p l e room_1 s m args below meth c H [] K M Q (F0 m 603 ls [])) := by
  intro d r ld pl li tl mo fo fl jp jo jl jn jm jf u q rr cA g H ls hI hu hKA hg hP hD hS hl
  obtain ⟨hx, hb, hml, hown, hts, hX, hbl, hL0, hK, hE0, hfl, hAOA, hA2⟩ := id C0
  have hAL : ∀ z9 : Nat, A z9 → L0 ≤ z9 := fun z9 h9 => (hA2 z9).mp h9
  have hA : ∀ z9 : Nat, s.heap.size ≤ z9 → A z9 := fun z9 h9 => (hA2 z9).mpr (hL0 ▸ h9)
  have hiX3 := inlX3
  obtain ⟨hd, hr, ⟨kl, hkl, ekl⟩, hsf, ⟨kp, hkp, ekp⟩⟩ := id hI
  have hu60 : (0 : Int32) ≤ nI u ∧ nI u ≤ 60 := ⟨nI_le (a := 0) (Nat.zero_le _) (by omega), nI_le (b := 60) (by omega) (by decide)⟩
  have hrow : ∀ z9, z9 < 8 → ([(x, .inr (2, [.ref rg, .ref tr, .ref pn, .int (nI d), .int (nI r), .int ld, .int li, .int tl, .int mo])), (rg, .inr (1, [.ref ro, .ref rl, .int pl])), (ro, .inl (cI, 4, .inl fo)), (rl, .inl (cI, 28, .inl (sh fl))), (tr, .inr (1, [.ref t0, .ref t1, .int jp])), (t0, .inl (cI, 4, .inl jo)), (t1, .inl (cI, 28, .inl jl)), (pn, .inr (0, [.ref pm, .ref pf, .int jn])), (pm, .inl (cI, 224, .inl jm)), (pf, .inl (cI, 224, .inl jf)), (sm, .inr (3, [.int (nI d), .int (nI r), .int ld, .int pl, .ref so, .ref sq, .int li, .int tl, .int mo])), (so, .inl (cI, 4, .inl fo)), (sq, .inl (cI, 31, .inl fl)), (q, .inl (cA, 8, .inr (.inr (.inr (.inr (fun i => if i < 8 then some (rr i) else none)))))), ((rr 0), .inl (cI, 32, .inl (g 0))), ((rr 1), .inl (cI, 32, .inl (g 1))), ((rr 2), .inl (cI, 32, .inl (g 2))), ((rr 3), .inl (cI, 32, .inl (g 3))), ((rr 4), .inl (cI, 32, .inl (g 4))), ((rr 5), .inl (cI, 32, .inl (g 5))), ((rr 6), .inl (cI, 32, .inl (g 6))), ((rr 7), .inl (cI, 32, .inl (g 7)))] : va_W)[14 + z9]? = some (rr z9, .inl (cI, 32, .inl (g z9))) := by
    intro z9 hz9
    rcases (show z9 = 0 ∨ z9 = 1 ∨ z9 = 2 ∨ z9 = 3 ∨ z9 = 4 ∨ z9 = 5 ∨ z9 = 6 ∨ z9 = 7 by omega) with rfl | rfl | rfl | rfl | rfl | rfl | rfl | rfl <;> rfl
  have hct8 : ∀ z9, z9 ≤ 8 → ctT (goS (safS fo fl pl (nI u)) d r) z9 ≤ 28 * z9 := fun z9 _ => ctT_le z9
  refine lv_iconst (v := 0) hx hb dL_law_603 (by decide) ?_
  refine lv_istore (lv' := [(16, .int 0), (0, .ref b), (1, .ref x), (2, .ref sm), (3, .int (nI t)), (5, .long (digS d r ld li tl mo pl fo fl)), (8, .int (nI u)), (14, .int 0), (15, .ref q)]) hx hb dL_law_604 hl (by decide) rfl (fun ls hl => ?_)
  have hl : lv_has ls 21 [(16, .int (nI 0)), (0, .ref b), (1, .ref x), (2, .ref sm), (3, .int (nI t)), (5, .long (digS d r ld li tl mo pl fo fl)), (8, .int (nI u)), (14, .int 0), (15, .ref q)] := (show 0 = nI 0 from rfl) ▸ hl
  have hl : lv_has ls 21 [(16, .int (nI 0)), (0, .ref b), (1, .ref x), (2, .ref sm), (3, .int (nI t)), (5, .long (digS d r ld li tl mo pl fo fl)), (8, .int (nI u)), (14, .int (nI 0)), (15, .ref q)] := (show 0 = nI 0 from rfl) ▸ hl
  have loop1 : ∀ (n : Nat) (k : Nat) (ct : Nat) (H : Heap) (locs : List Loc) (ls : Array Slot), k + n = 8 → ct = ctT (goS (safS fo fl pl (nI u)) d r) k → lv_has ls 21 [(0, .ref b), (1, .ref x), (2, .ref sm), (3, .int (nI t)), (5, .long (digS d r ld li tl mo pl fo fl)), (8, .int (nI u)), (15, .ref q), (14, .int (nI ct)), (16, .int (nI k))] → va_P D vwCl [(x, .inr (2, [.ref rg, .ref tr, .ref pn, .int (nI d), .int (nI r), .int ld, .int li, .int tl, .int mo])), (rg, .inr (1, [.ref ro, .ref rl, .int pl])), (ro, .inl (cI, 4, .inl fo)), (rl, .inl (cI, 28, .inl (sh fl))), (tr, .inr (1, [.ref t0, .ref t1, .int jp])), (t0, .inl (cI, 4, .inl jo)), (t1, .inl (cI, 28, .inl jl)), (pn, .inr (0, [.ref pm, .ref pf, .int jn])), (pm, .inl (cI, 224, .inl jm)), (pf, .inl (cI, 224, .inl jf)), (sm, .inr (3, [.int (nI d), .int (nI r), .int ld, .int pl, .ref so, .ref sq, .int li, .int tl, .int mo])), (so, .inl (cI, 4, .inl fo)), (sq, .inl (cI, 31, .inl fl)), (q, .inl (cA, 8, .inr (.inr (.inr (.inr (fun i => if i < 8 then some (rr i) else none)))))), ((rr 0), .inl (cI, 32, .inl (g 0))), ((rr 1), .inl (cI, 32, .inl (g 1))), ((rr 2), .inl (cI, 32, .inl (g 2))), ((rr 3), .inl (cI, 32, .inl (g 3))), ((rr 4), .inl (cI, 32, .inl (g 4))), ((rr 5), .inl (cI, 32, .inl (g 5))), ((rr 6), .inl (cI, 32, .inl (g 6))), ((rr 7), .inl (cI, 32, .inl (g 7)))] H → va_D A [(x, .inr (2, [.ref rg, .ref tr, .ref pn, .int (nI d), .int (nI r), .int ld, .int li, .int tl, .int mo])), (rg, .inr (1, [.ref ro, .ref rl, .int pl])), (ro, .inl (cI, 4, .inl fo)), (rl, .inl (cI, 28, .inl (sh fl))), (tr, .inr (1, [.ref t0, .ref t1, .int jp])), (t0, .inl (cI, 4, .inl jo)), (t1, .inl (cI, 28, .inl jl)), (pn, .inr (0, [.ref pm, .ref pf, .int jn])), (pm, .inl (cI, 224, .inl jm)), (pf, .inl (cI, 224, .inl jf)), (sm, .inr (3, [.int (nI d), .int (nI r), .int ld, .int pl, .ref so, .ref sq, .int li, .int tl, .int mo])), (so, .inl (cI, 4, .inl fo)), (sq, .inl (cI, 31, .inl fl)), (q, .inl (cA, 8, .inr (.inr (.inr (.inr (fun i => if i < 8 then some (rr i) else none)))))), ((rr 0), .inl (cI, 32, .inl (g 0))), ((rr 1), .inl (cI, 32, .inl (g 1))), ((rr 2), .inl (cI, 32, .inl (g 2))), ((rr 3), .inl (cI, 32, .inl (g 3))), ((rr 4), .inl (cI, 32, .inl (g 4))), ((rr 5), .inl (cI, 32, .inl (g 5))), ((rr 6), .inl (cI, 32, .inl (g 6))), ((rr 7), .inl (cI, 32, .inl (g 7)))] → va_S A s.heap H locs → W p l e room_1 s m args below meth c H locs K M Q (F0 m 606 ls []) := by
    intro n
    induction n with
    | zero =>
      intro k ct H locs ls hn hct hl hP hD hS
      have hk : k = 8 := by omega
      rw [hk] at hl hct
      refine lv_iload hx hb dL_law_606 (lv_at hl 8 rfl) ?_
      refine lv_bipush (v := 8) hx hb dL_law_608 (by decide) ?_
      refine lv_icmp_ge (tgt := 799) hx hb dL_law_610 (by decide) (fun _ => ?_) (fun c_58 => absurd (by decide) c_58)
      have hP := hP.sub (ws' := [(x, .inr (2, [.ref rg, .ref tr, .ref pn, .int (nI d), .int (nI r), .int ld, .int li, .int tl, .int mo])), (rg, .inr (1, [.ref ro, .ref rl, .int pl])), (ro, .inl (cI, 4, .inl fo)), (rl, .inl (cI, 28, .inl (sh fl))), (tr, .inr (1, [.ref t0, .ref t1, .int jp])), (t0, .inl (cI, 4, .inl jo)), (t1, .inl (cI, 28, .inl jl)), (pn, .inr (0, [.ref pm, .ref pf, .int jn])), (pm, .inl (cI, 224, .inl jm)), (pf, .inl (cI, 224, .inl jf)), (sm, .inr (3, [.int (nI d), .int (nI r), .int ld, .int pl, .ref so, .ref sq, .int li, .int tl, .int mo])), (so, .inl (cI, 4, .inl fo)), (sq, .inl (cI, 31, .inl fl))]) [0, 1, 2, 3, 4, 5, 6, 7, 8, 9, 10, 11, 12] rfl
      have hD := hD.sub (ws' := [(x, .inr (2, [.ref rg, .ref tr, .ref pn, .int (nI d), .int (nI r), .int ld, .int li, .int tl, .int mo])), (rg, .inr (1, [.ref ro, .ref rl, .int pl])), (ro, .inl (cI, 4, .inl fo)), (rl, .inl (cI, 28, .inl (sh fl))), (tr, .inr (1, [.ref t0, .ref t1, .int jp])), (t0, .inl (cI, 4, .inl jo)), (t1, .inl (cI, 28, .inl jl)), (pn, .inr (0, [.ref pm, .ref pf, .int jn])), (pm, .inl (cI, 224, .inl jm)), (pf, .inl (cI, 224, .inl jf)), (sm, .inr (3, [.int (nI d), .int (nI r), .int ld, .int pl, .ref so, .ref sq, .int li, .int tl, .int mo])), (so, .inl (cI, 4, .inl fo)), (sq, .inl (cI, 31, .inl fl))]) [0, 1, 2, 3, 4, 5, 6, 7, 8, 9, 10, 11, 12] (by decide) rfl
      refine va_forget (fun z9 hz => by rw [hL0]; exact (hA2 _).mp (hS.2.2 z9 hz)) ?_
      exact nx d r ld pl li tl mo fo fl jp jo jl jn jm jf u ct H ls hI hu hct hP hD ⟨hS.1, hS.2.1, fun _ hz => absurd hz List.not_mem_nil⟩ (lv_sub hl [0, 1, 2, 3, 4, 5, 7] rfl)
    | succ n ih =>
      intro k ct H locs ls hn hct hl hP hD hS
      refine lv_iload hx hb dL_law_606 (lv_at hl 8 rfl) ?_
      refine lv_bipush (v := 8) hx hb dL_law_608 (by decide) ?_
      refine lv_icmp_ge (tgt := 799) hx hb dL_law_610 (by decide) (fun c_59 => absurd c_59 (nI_ge (b := 8) (by omega) (by decide))) (fun _ => ?_)
      have hkn : k < 8 := by omega
      have hctk := hct8 k (by omega)
      have loop2 : ∀ (i4 : Nat) (i : Nat) (ct : Nat) (H : Heap) (locs : List Loc) (ls : Array Slot), i + i4 = 28 → ct = ctT (goS (safS fo fl pl (nI u)) d r) k + ctK (goS (safS fo fl pl (nI u)) d r) k i → lv_has ls 21 [(0, .ref b), (1, .ref x), (2, .ref sm), (3, .int (nI t)), (5, .long (digS d r ld li tl mo pl fo fl)), (8, .int (nI u)), (15, .ref q), (14, .int (nI ct)), (16, .int (nI k)), (17, .int (nI (i + 3)))] → va_P D vwCl [(x, .inr (2, [.ref rg, .ref tr, .ref pn, .int (nI d), .int (nI r), .int ld, .int li, .int tl, .int mo])), (rg, .inr (1, [.ref ro, .ref rl, .int pl])), (ro, .inl (cI, 4, .inl fo)), (rl, .inl (cI, 28, .inl (sh fl))), (tr, .inr (1, [.ref t0, .ref t1, .int jp])), (t0, .inl (cI, 4, .inl jo)), (t1, .inl (cI, 28, .inl jl)), (pn, .inr (0, [.ref pm, .ref pf, .int jn])), (pm, .inl (cI, 224, .inl jm)), (pf, .inl (cI, 224, .inl jf)), (sm, .inr (3, [.int (nI d), .int (nI r), .int ld, .int pl, .ref so, .ref sq, .int li, .int tl, .int mo])), (so, .inl (cI, 4, .inl fo)), (sq, .inl (cI, 31, .inl fl)), (q, .inl (cA, 8, .inr (.inr (.inr (.inr (fun i => if i < 8 then some (rr i) else none)))))), ((rr 0), .inl (cI, 32, .inl (g 0))), ((rr 1), .inl (cI, 32, .inl (g 1))), ((rr 2), .inl (cI, 32, .inl (g 2))), ((rr 3), .inl (cI, 32, .inl (g 3))), ((rr 4), .inl (cI, 32, .inl (g 4))), ((rr 5), .inl (cI, 32, .inl (g 5))), ((rr 6), .inl (cI, 32, .inl (g 6))), ((rr 7), .inl (cI, 32, .inl (g 7)))] H → va_D A [(x, .inr (2, [.ref rg, .ref tr, .ref pn, .int (nI d), .int (nI r), .int ld, .int li, .int tl, .int mo])), (rg, .inr (1, [.ref ro, .ref rl, .int pl])), (ro, .inl (cI, 4, .inl fo)), (rl, .inl (cI, 28, .inl (sh fl))), (tr, .inr (1, [.ref t0, .ref t1, .int jp])), (t0, .inl (cI, 4, .inl jo)), (t1, .inl (cI, 28, .inl jl)), (pn, .inr (0, [.ref pm, .ref pf, .int jn])), (pm, .inl (cI, 224, .inl jm)), (pf, .inl (cI, 224, .inl jf)), (sm, .inr (3, [.int (nI d), .int (nI r), .int ld, .int pl, .ref so, .ref sq, .int li, .int tl, .int mo])), (so, .inl (cI, 4, .inl fo)), (sq, .inl (cI, 31, .inl fl)), (q, .inl (cA, 8, .inr (.inr (.inr (.inr (fun i => if i < 8 then some (rr i) else none)))))), ((rr 0), .inl (cI, 32, .inl (g 0))), ((rr 1), .inl (cI, 32, .inl (g 1))), ((rr 2), .inl (cI, 32, .inl (g 2))), ((rr 3), .inl (cI, 32, .inl (g 3))), ((rr 4), .inl (cI, 32, .inl (g 4))), ((rr 5), .inl (cI, 32, .inl (g 5))), ((rr 6), .inl (cI, 32, .inl (g 6))), ((rr 7), .inl (cI, 32, .inl (g 7)))] → va_S A s.heap H locs → W p l e room_1 s m args below meth c H locs K M Q (F0 m 616 ls []) := by
        intro i4
        induction i4 with
        | zero =>
          intro i ct H locs ls ho hc2 hl hP hD hS
          have ho : i = 28 := by omega
          rw [ho] at hl hc2
          refine lv_iload hx hb dL_law_616 (lv_at hl 9 rfl) ?_
          refine lv_bipush (v := 31) hx hb dL_law_618 (by decide) ?_
          refine lv_icmp_ge (tgt := 793) hx hb dL_law_620 (by decide) (fun _ => ?_) (fun c_60 => absurd (by decide) c_60)
          refine lv_iinc (v := (nI k) + 1) (lv' := [(16, .int ((nI k) + 1)), (0, .ref b), (1, .ref x), (2, .ref sm), (3, .int (nI t)), (5, .long (digS d r ld li tl mo pl fo fl)), (8, .int (nI u)), (15, .ref q), (14, .int (nI ct)), (17, .int (nI (28 + 3)))]) hx hb dL_law_793 hl (k := 8) rfl rfl (by decide) rfl (fun ls hl => ?_)
          refine lv_goto (tgt := 606) hx hb dL_law_796 (by decide) ?_
          have hl : lv_has ls 21 [(16, .int (nI (k + 1))), (0, .ref b), (1, .ref x), (2, .ref sm), (3, .int (nI t)), (5, .long (digS d r ld li tl mo pl fo fl)), (8, .int (nI u)), (15, .ref q), (14, .int (nI ct)), (17, .int (nI (28 + 3)))] := (show (nI k) + 1 = nI (k + 1) from nI_1 k) ▸ hl
          exact ih (k + 1) ct _ _ _ (by omega) hc2 (lv_sub hl [1, 2, 3, 4, 5, 6, 7, 8, 0] rfl) hP hD hS
        | succ i4 ih4 =>
          intro i ct H locs ls ho hc2 hl hP hD hS
          have hi : i < 28 := by omega
          have ho : 3 ≤ i + 3 ∧ i + 3 ≤ 30 := by omega
          refine lv_iload hx hb dL_law_616 (lv_at hl 9 rfl) ?_
          refine lv_bipush (v := 31) hx hb dL_law_618 (by decide) ?_
          refine lv_icmp_ge (tgt := 793) hx hb dL_law_620 (by decide) (fun c_61 => absurd c_61 (nI_ge (b := 31) (by omega) (by decide))) (fun _ => ?_)
          refine lv_aload hx hb dL_law_623 (lv_at hl 6 rfl) ?_
          refine lv_iload hx hb dL_law_625 (lv_at hl 8 rfl) ?_
          refine c_aaload hx hb hKA hP 13 1 rfl rfl (vp_in_nI (n := k) hkn (by decide)) (by rw [nI_clamp (by omega)]; exact if_pos hkn) dL_law_627 ?_
          refine lv_iload hx hb dL_law_628 (lv_at hl 9 rfl) ?_
          refine va_iald hx hb hKA hP (14 + k) 0 (hrow _ hkn) rfl (vp_in_nI (n := (i + 3)) (show i + 3 < 32 by omega) (by decide)) dL_law_630 ?_
          refine c_top (show (g k (nI (i + 3)).toNatClampNeg) = awN (goS (safS fo fl pl (nI u)) d r) k (i + 3) from by rw [nI_clamp (by omega)]; exact hg k hkn (i + 3) (by omega)) ?_
          rcases aw_all (sf := safS fo fl pl (nI u)) hd hr hkn ho with haw | ⟨j, hj, haw, hjs, hj0, hjn⟩
          · refine c_top (show (awN (goS (safS fo fl pl (nI u)) d r) k (i + 3)) = -1 from haw) ?_
            refine lv_istore (lv' := [(18, .int (-1)), (0, .ref b), (1, .ref x), (2, .ref sm), (3, .int (nI t)), (5, .long (digS d r ld li tl mo pl fo fl)), (8, .int (nI u)), (15, .ref q), (14, .int (nI ct)), (16, .int (nI k)), (17, .int (nI (i + 3)))]) hx hb dL_law_631 hl (by decide) rfl (fun ls hl => ?_)
            refine lv_iload hx hb dL_law_633 (lv_at hl 0 rfl) ?_
            refine lv_if_ge (tgt := 641) hx hb dL_law_635 (by decide) (fun c_62 => absurd c_62 (by decide)) (fun _ => ?_)
            refine lv_goto (tgt := 787) hx hb dL_law_638 (by decide) ?_
            refine lv_iinc (v := (nI (i + 3)) + 1) (lv' := [(17, .int ((nI (i + 3)) + 1)), (18, .int (-1)), (0, .ref b), (1, .ref x), (2, .ref sm), (3, .int (nI t)), (5, .long (digS d r ld li tl mo pl fo fl)), (8, .int (nI u)), (15, .ref q), (14, .int (nI ct)), (16, .int (nI k))]) hx hb dL_law_787 hl (k := 10) rfl rfl (by decide) rfl (fun ls hl => ?_)
            refine lv_goto (tgt := 616) hx hb dL_law_790 (by decide) ?_
            have hl : lv_has ls 21 [(17, .int (nI (i + 1 + 3))), (18, .int (-1)), (0, .ref b), (1, .ref x), (2, .ref sm), (3, .int (nI t)), (5, .long (digS d r ld li tl mo pl fo fl)), (8, .int (nI u)), (15, .ref q), (14, .int (nI ct)), (16, .int (nI k))] := (show (nI (i + 3)) + 1 = nI (i + 1 + 3) from by rw [nI_1]) ▸ hl
            exact ih4 (i + 1) ct _ _ _ (by omega) (by rw [hc2, ctK_s, if_pos ((awN_in ho).symm.trans haw)]; omega) (lv_sub hl [2, 3, 4, 5, 6, 7, 8, 9, 10, 0] rfl) hP hD hS
          · refine c_top (show (awN (goS (safS fo fl pl (nI u)) d r) k (i + 3)) = nI j from haw) ?_
            refine lv_istore (lv' := [(18, .int (nI j)), (0, .ref b), (1, .ref x), (2, .ref sm), (3, .int (nI t)), (5, .long (digS d r ld li tl mo pl fo fl)), (8, .int (nI u)), (15, .ref q), (14, .int (nI ct)), (16, .int (nI k)), (17, .int (nI (i + 3)))]) hx hb dL_law_631 hl (by decide) rfl (fun ls hl => ?_)
            refine lv_iload hx hb dL_law_633 (lv_at hl 0 rfl) ?_
            refine lv_if_ge (tgt := 641) hx hb dL_law_635 (by decide) (fun _ => ?_) (fun c_63 => absurd (nI_pos' (by omega)) c_63)
            refine lv_iinc (v := (nI ct) + 1) (lv' := [(14, .int ((nI ct) + 1)), (18, .int (nI j)), (0, .ref b), (1, .ref x), (2, .ref sm), (3, .int (nI t)), (5, .long (digS d r ld li tl mo pl fo fl)), (8, .int (nI u)), (15, .ref q), (16, .int (nI k)), (17, .int (nI (i + 3)))]) hx hb dL_law_641 hl (k := 8) rfl rfl (by decide) rfl (fun ls hl => ?_)
            have hl : lv_has ls 21 [(14, .int (nI (ct + 1))), (18, .int (nI j)), (0, .ref b), (1, .ref x), (2, .ref sm), (3, .int (nI t)), (5, .long (digS d r ld li tl mo pl fo fl)), (8, .int (nI u)), (15, .ref q), (16, .int (nI k)), (17, .int (nI (i + 3)))] := (show (nI ct) + 1 = nI (ct + 1) from nI_1 ct) ▸ hl
            have hc3 : ct + 1 = ctT (goS (safS fo fl pl (nI u)) d r) k + ctK (goS (safS fo fl pl (nI u)) d r) k (i + 1) := by rw [hc2, ctK_s, if_neg (fun z9 => nI_nm1 (n_lt j hj) (haw.symm.trans ((awN_in ho).trans z9)))]; omega
            have c724 : W p l e room_1 s m args below meth c H locs K M Q (F0 m 724 ls []) := by
              refine lv_iconst (v := 1) hx hb dL_law_724 (by decide) ?_
              refine lv_goto (tgt := 729) hx hb dL_law_725 (by decide) ?_
              refine lv_istore (lv' := [(19, .int 1), (14, .int (nI (ct + 1))), (18, .int (nI j)), (0, .ref b), (1, .ref x), (2, .ref sm), (3, .int (nI t)), (5, .long (digS d r ld li tl mo pl fo fl)), (8, .int (nI u)), (15, .ref q), (16, .int (nI k)), (17, .int (nI (i + 3)))]) hx hb dL_law_729 hl (by decide) rfl (fun ls hl => ?_)
              refine lv_iload hx hb dL_law_731 (lv_at hl 0 rfl) ?_
              refine lv_if_eq (tgt := 785) hx hb dL_law_733 (by decide) (fun c_64 => absurd c_64 (by decide)) (fun _ => ?_)
              refine lv_aload_n hx hb dL_law_736 rfl (lv_at hl 4 rfl) ?_
              refine lv_iload hx hb dL_law_737 (lv_at hl 8 rfl) ?_
              refine lv_iload hx hb dL_law_739 (lv_at hl 10 rfl) ?_
              refine lv_iload hx hb dL_law_741 (lv_at hl 11 rfl) ?_
              have hPc := hP.sub (ws' := [(x, .inr (2, [.ref rg, .ref tr, .ref pn, .int (nI d), .int (nI r), .int ld, .int li, .int tl, .int mo])), (rg, .inr (1, [.ref ro, .ref rl, .int pl])), (ro, .inl (cI, 4, .inl fo)), (rl, .inl (cI, 28, .inl (sh fl)))]) [0, 1, 2, 3] rfl
              have hDc : va_D (fun q : Nat => L0 ≤ q) [(x, .inr (2, [.ref rg, .ref tr, .ref pn, .int (nI d), .int (nI r), .int ld, .int li, .int tl, .int mo])), (rg, .inr (1, [.ref ro, .ref rl, .int pl])), (ro, .inl (cI, 4, .inl fo)), (rl, .inl (cI, 28, .inl (sh fl)))] := (hD.sub (ws' := [(x, .inr (2, [.ref rg, .ref tr, .ref pn, .int (nI d), .int (nI r), .int ld, .int li, .int tl, .int mo])), (rg, .inr (1, [.ref ro, .ref rl, .int pl])), (ro, .inl (cI, 4, .inl fo)), (rl, .inl (cI, 28, .inl (sh fl)))]) [0, 1, 2, 3] (by decide) rfl).weaken (fun _ z9 _ h9 => hAL _ h9)
              have hKc := hK.sub (tys' := [(cI, .int)]) [0] rfl
              refine c_callR (va_runV (As := [.int (nI u), .int (nI k), .int (nI (i + 3))]) (rest := []) ⟨hx, hb, hml, hown, hts⟩ (k_isSafeWith_ok l D L0 cI x rg tr pn ro rl d r ld li tl mo pl fo fl (nI u) hu60 k hkn (i + 3) ho) (cwV 3 hts gL_law_X2_isSafeWith rfl rfl rfl (by decide +kernel) ⟨Nat.le_of_ble_eq_true rfl, Nat.le_of_ble_eq_true rfl⟩) ⟨cP_blind, va_recv hKc hPc (ci := 2) (q0 := 0) rfl rfl, cP_of hPc hKc hDc (kE_at hE0 hAL hS)⟩ rfl rfl hl.1 rfl (lv_room (Nat.le_of_ble_eq_true rfl)) dL_law_743 ⟨by show K + 0 ≤ 600130; omega, by show M + 0 ≤ 7301080; omega⟩) ?_
              show W _ _ _ _ _ _ _ _ _ _ _ _ _ _ _ (F0 m 746 ls [.int (bI (safS fo fl pl (nI u) k (i + 3)))])
              refine c_top (show (bI (safS fo fl pl (nI u) k (i + 3))) = 1 from by rw [hjs]; rfl) ?_
              refine lv_if_eq (tgt := 785) hx hb dL_law_746 (by decide) (fun c_65 => absurd c_65 (by decide)) (fun _ => ?_)
              refine lv_iload hx hb dL_law_749 (lv_at hl 2 rfl) ?_
              by_cases hz : j = 0
              · refine lv_if_ne (tgt := 758) hx hb dL_law_751 (by decide) (fun c_66 => absurd (by rw [hz] <;> rfl) c_66) (fun _ => ?_)
                refine lv_iconst (v := 1) hx hb dL_law_754 (by decide) ?_
                refine lv_goto (tgt := 759) hx hb dL_law_755 (by decide) ?_
                refine lv_iload hx hb dL_law_759 (lv_at hl 10 rfl) ?_
                refine lv_aload_n hx hb dL_law_761 rfl (lv_at hl 4 rfl) ?_
                have hPc := hP.sub (ws' := [(x, .inr (2, [.ref rg, .ref tr, .ref pn, .int (nI d), .int (nI r), .int ld, .int li, .int tl, .int mo]))]) [0] rfl
                have hDc : va_D (fun q : Nat => L0 ≤ q) [(x, .inr (2, [.ref rg, .ref tr, .ref pn, .int (nI d), .int (nI r), .int ld, .int li, .int tl, .int mo]))] := (hD.sub (ws' := [(x, .inr (2, [.ref rg, .ref tr, .ref pn, .int (nI d), .int (nI r), .int ld, .int li, .int tl, .int mo]))]) [0] (by decide) rfl).weaken (fun _ z9 _ h9 => hAL _ h9)
                have hKc := hK.sub (tys' := []) [] rfl
                refine c_callR (va_runV (As := []) (rest := [.int (nI k), .int 1]) ⟨hx, hb, hml, hown, hts⟩ (k_direction l D L0 x rg tr pn d r ld li tl mo) (cwV 0 hts gL_law_X2_direction rfl rfl rfl (by decide +kernel) ⟨Nat.le_of_ble_eq_true rfl, Nat.le_of_ble_eq_true rfl⟩) ⟨cP_blind, va_recv hKc hPc (ci := 2) (q0 := 0) rfl rfl, cP_of hPc hKc hDc (kE_at hE0 hAL hS)⟩ rfl rfl hl.1 rfl (lv_room (Nat.le_of_ble_eq_true rfl)) dL_law_762 ⟨by show K + 0 ≤ 600130; omega, by show M + 0 ≤ 7301080; omega⟩) ?_
                show W _ _ _ _ _ _ _ _ _ _ _ _ _ _ _ (F0 m 765 ls [.int (nI d), .int (nI k), .int 1])
                refine lv_icmp_ne (tgt := 781) hx hb dL_law_765 (by decide) (fun c_67 => absurd (by rw [(hj0.mp hz).1]) c_67) (fun _ => ?_)
                refine lv_iload hx hb dL_law_768 (lv_at hl 11 rfl) ?_
                refine lv_aload_n hx hb dL_law_770 rfl (lv_at hl 4 rfl) ?_
                have hPc := hP.sub (ws' := [(x, .inr (2, [.ref rg, .ref tr, .ref pn, .int (nI d), .int (nI r), .int ld, .int li, .int tl, .int mo]))]) [0] rfl
                have hDc : va_D (fun q : Nat => L0 ≤ q) [(x, .inr (2, [.ref rg, .ref tr, .ref pn, .int (nI d), .int (nI r), .int ld, .int li, .int tl, .int mo]))] := (hD.sub (ws' := [(x, .inr (2, [.ref rg, .ref tr, .ref pn, .int (nI d), .int (nI r), .int ld, .int li, .int tl, .int mo]))]) [0] (by decide) rfl).weaken (fun _ z9 _ h9 => hAL _ h9)
                have hKc := hK.sub (tys' := []) [] rfl
                refine c_callR (va_runV (As := []) (rest := [.int (nI (i + 3)), .int 1]) ⟨hx, hb, hml, hown, hts⟩ (k_reach l D L0 x rg tr pn d r ld li tl mo) (cwV 0 hts gL_law_X2_reach rfl rfl rfl (by decide +kernel) ⟨Nat.le_of_ble_eq_true rfl, Nat.le_of_ble_eq_true rfl⟩) ⟨cP_blind, va_recv hKc hPc (ci := 2) (q0 := 0) rfl rfl, cP_of hPc hKc hDc (kE_at hE0 hAL hS)⟩ rfl rfl hl.1 rfl (lv_room (Nat.le_of_ble_eq_true rfl)) dL_law_771 ⟨by show K + 0 ≤ 600130; omega, by show M + 0 ≤ 7301080; omega⟩) ?_
                show W _ _ _ _ _ _ _ _ _ _ _ _ _ _ _ (F0 m 774 ls [.int (nI r), .int (nI (i + 3)), .int 1])
                refine lv_icmp_ne (tgt := 781) hx hb dL_law_774 (by decide) (fun c_68 => absurd (by rw [(hj0.mp hz).2]) c_68) (fun _ => ?_)
                refine lv_iconst (v := 1) hx hb dL_law_777 (by decide) ?_
                refine lv_goto (tgt := 782) hx hb dL_law_778 (by decide) ?_
                refine lv_icmp_eq (tgt := 787) hx hb dL_law_782 (by decide) (fun _ => ?_) (fun c_69 => absurd (rfl) c_69)
                refine lv_iinc (v := (nI (i + 3)) + 1) (lv' := [(17, .int ((nI (i + 3)) + 1)), (19, .int 1), (14, .int (nI (ct + 1))), (18, .int (nI j)), (0, .ref b), (1, .ref x), (2, .ref sm), (3, .int (nI t)), (5, .long (digS d r ld li tl mo pl fo fl)), (8, .int (nI u)), (15, .ref q), (16, .int (nI k))]) hx hb dL_law_787 hl (k := 11) rfl rfl (by decide) rfl (fun ls hl => ?_)
                refine lv_goto (tgt := 616) hx hb dL_law_790 (by decide) ?_
                have hl : lv_has ls 21 [(17, .int (nI (i + 1 + 3))), (19, .int 1), (14, .int (nI (ct + 1))), (18, .int (nI j)), (0, .ref b), (1, .ref x), (2, .ref sm), (3, .int (nI t)), (5, .long (digS d r ld li tl mo pl fo fl)), (8, .int (nI u)), (15, .ref q), (16, .int (nI k))] := (show (nI (i + 3)) + 1 = nI (i + 1 + 3) from by rw [nI_1]) ▸ hl
                exact ih4 (i + 1) (ct + 1) _ _ _ (by omega) hc3 (lv_sub hl [4, 5, 6, 7, 8, 9, 10, 2, 11, 0] rfl) hP hD hS
              · refine lv_if_ne (tgt := 758) hx hb dL_law_751 (by decide) (fun _ => ?_) (fun c_70 => absurd c_70 (nI_ne0 (by omega) (by omega)))
                refine lv_iconst (v := 0) hx hb dL_law_758 (by decide) ?_
                refine lv_iload hx hb dL_law_759 (lv_at hl 10 rfl) ?_
                refine lv_aload_n hx hb dL_law_761 rfl (lv_at hl 4 rfl) ?_
                have hPc := hP.sub (ws' := [(x, .inr (2, [.ref rg, .ref tr, .ref pn, .int (nI d), .int (nI r), .int ld, .int li, .int tl, .int mo]))]) [0] rfl
                have hDc : va_D (fun q : Nat => L0 ≤ q) [(x, .inr (2, [.ref rg, .ref tr, .ref pn, .int (nI d), .int (nI r), .int ld, .int li, .int tl, .int mo]))] := (hD.sub (ws' := [(x, .inr (2, [.ref rg, .ref tr, .ref pn, .int (nI d), .int (nI r), .int ld, .int li, .int tl, .int mo]))]) [0] (by decide) rfl).weaken (fun _ z9 _ h9 => hAL _ h9)
                have hKc := hK.sub (tys' := []) [] rfl
                refine c_callR (va_runV (As := []) (rest := [.int (nI k), .int 0]) ⟨hx, hb, hml, hown, hts⟩ (k_direction l D L0 x rg tr pn d r ld li tl mo) (cwV 0 hts gL_law_X2_direction rfl rfl rfl (by decide +kernel) ⟨Nat.le_of_ble_eq_true rfl, Nat.le_of_ble_eq_true rfl⟩) ⟨cP_blind, va_recv hKc hPc (ci := 2) (q0 := 0) rfl rfl, cP_of hPc hKc hDc (kE_at hE0 hAL hS)⟩ rfl rfl hl.1 rfl (lv_room (Nat.le_of_ble_eq_true rfl)) dL_law_762 ⟨by show K + 0 ≤ 600130; omega, by show M + 0 ≤ 7301080; omega⟩) ?_
                show W _ _ _ _ _ _ _ _ _ _ _ _ _ _ _ (F0 m 765 ls [.int (nI d), .int (nI k), .int 0])
                refine lv_icmp_ne (tgt := 781) hx hb dL_law_765 (by decide) (fun c_71 => ?_) (fun c_71 => ?_)
                · refine lv_iconst (v := 0) hx hb dL_law_781 (by decide) ?_
                  refine lv_icmp_eq (tgt := 787) hx hb dL_law_782 (by decide) (fun _ => ?_) (fun c_72 => absurd (rfl) c_72)
                  refine lv_iinc (v := (nI (i + 3)) + 1) (lv' := [(17, .int ((nI (i + 3)) + 1)), (19, .int 1), (14, .int (nI (ct + 1))), (18, .int (nI j)), (0, .ref b), (1, .ref x), (2, .ref sm), (3, .int (nI t)), (5, .long (digS d r ld li tl mo pl fo fl)), (8, .int (nI u)), (15, .ref q), (16, .int (nI k))]) hx hb dL_law_787 hl (k := 11) rfl rfl (by decide) rfl (fun ls hl => ?_)
                  refine lv_goto (tgt := 616) hx hb dL_law_790 (by decide) ?_
                  have hl : lv_has ls 21 [(17, .int (nI (i + 1 + 3))), (19, .int 1), (14, .int (nI (ct + 1))), (18, .int (nI j)), (0, .ref b), (1, .ref x), (2, .ref sm), (3, .int (nI t)), (5, .long (digS d r ld li tl mo pl fo fl)), (8, .int (nI u)), (15, .ref q), (16, .int (nI k))] := (show (nI (i + 3)) + 1 = nI (i + 1 + 3) from by rw [nI_1]) ▸ hl
                  exact ih4 (i + 1) (ct + 1) _ _ _ (by omega) hc3 (lv_sub hl [4, 5, 6, 7, 8, 9, 10, 2, 11, 0] rfl) hP hD hS
                · refine lv_iload hx hb dL_law_768 (lv_at hl 11 rfl) ?_
                  refine lv_aload_n hx hb dL_law_770 rfl (lv_at hl 4 rfl) ?_
                  have hPc := hP.sub (ws' := [(x, .inr (2, [.ref rg, .ref tr, .ref pn, .int (nI d), .int (nI r), .int ld, .int li, .int tl, .int mo]))]) [0] rfl
                  have hDc : va_D (fun q : Nat => L0 ≤ q) [(x, .inr (2, [.ref rg, .ref tr, .ref pn, .int (nI d), .int (nI r), .int ld, .int li, .int tl, .int mo]))] := (hD.sub (ws' := [(x, .inr (2, [.ref rg, .ref tr, .ref pn, .int (nI d), .int (nI r), .int ld, .int li, .int tl, .int mo]))]) [0] (by decide) rfl).weaken (fun _ z9 _ h9 => hAL _ h9)
                  have hKc := hK.sub (tys' := []) [] rfl
                  refine c_callR (va_runV (As := []) (rest := [.int (nI (i + 3)), .int 0]) ⟨hx, hb, hml, hown, hts⟩ (k_reach l D L0 x rg tr pn d r ld li tl mo) (cwV 0 hts gL_law_X2_reach rfl rfl rfl (by decide +kernel) ⟨Nat.le_of_ble_eq_true rfl, Nat.le_of_ble_eq_true rfl⟩) ⟨cP_blind, va_recv hKc hPc (ci := 2) (q0 := 0) rfl rfl, cP_of hPc hKc hDc (kE_at hE0 hAL hS)⟩ rfl rfl hl.1 rfl (lv_room (Nat.le_of_ble_eq_true rfl)) dL_law_771 ⟨by show K + 0 ≤ 600130; omega, by show M + 0 ≤ 7301080; omega⟩) ?_
                  show W _ _ _ _ _ _ _ _ _ _ _ _ _ _ _ (F0 m 774 ls [.int (nI r), .int (nI (i + 3)), .int 0])
                  refine lv_icmp_ne (tgt := 781) hx hb dL_law_774 (by decide) (fun c_73 => ?_) (fun c_73 => ?_)
                  · refine lv_iconst (v := 0) hx hb dL_law_781 (by decide) ?_
                    refine lv_icmp_eq (tgt := 787) hx hb dL_law_782 (by decide) (fun _ => ?_) (fun c_74 => absurd (rfl) c_74)
                    refine lv_iinc (v := (nI (i + 3)) + 1) (lv' := [(17, .int ((nI (i + 3)) + 1)), (19, .int 1), (14, .int (nI (ct + 1))), (18, .int (nI j)), (0, .ref b), (1, .ref x), (2, .ref sm), (3, .int (nI t)), (5, .long (digS d r ld li tl mo pl fo fl)), (8, .int (nI u)), (15, .ref q), (16, .int (nI k))]) hx hb dL_law_787 hl (k := 11) rfl rfl (by decide) rfl (fun ls hl => ?_)
                    refine lv_goto (tgt := 616) hx hb dL_law_790 (by decide) ?_
                    have hl : lv_has ls 21 [(17, .int (nI (i + 1 + 3))), (19, .int 1), (14, .int (nI (ct + 1))), (18, .int (nI j)), (0, .ref b), (1, .ref x), (2, .ref sm), (3, .int (nI t)), (5, .long (digS d r ld li tl mo pl fo fl)), (8, .int (nI u)), (15, .ref q), (16, .int (nI k))] := (show (nI (i + 3)) + 1 = nI (i + 1 + 3) from by rw [nI_1]) ▸ hl
                    exact ih4 (i + 1) (ct + 1) _ _ _ (by omega) hc3 (lv_sub hl [4, 5, 6, 7, 8, 9, 10, 2, 11, 0] rfl) hP hD hS
                  · exact absurd (hj0.mpr ⟨by have y := congrArg Int32.toInt c_71; rw [nI_toInt (by omega), nI_toInt (by omega)] at y; omega, by have y := congrArg Int32.toInt c_73; rw [nI_toInt (by omega), nI_toInt (by omega)] at y; omega⟩) hz
            refine lv_iload hx hb dL_law_644 (lv_at hl 1 rfl) ?_
            refine lv_if_eq (tgt := 724) hx hb dL_law_646 (by decide) (fun c_75 => ?_) (fun c_75 => ?_)
            · exact c724
            · obtain ⟨jp9, ej⟩ : ∃ z9, j = z9 + 1 := ⟨j - 1, by have y : j ≠ 0 := fun y => c_75 (by rw [y]; rfl); omega⟩
              have hm1 : nI j - 1 = nI jp9 := by rw [ej]; exact pk_sub (b := 1) (by omega)
              have hnb := hjn jp9 ej
              refine lv_aload hx hb dL_law_649 (lv_at hl 8 rfl) ?_
              refine lv_iload hx hb dL_law_651 (lv_at hl 9 rfl) ?_
              refine lv_iconst (v := 1) hx hb dL_law_653 (by decide) ?_
              refine lv_iadd hx hb dL_law_654 ?_
              refine lv_bipush (v := 8) hx hb dL_law_655 (by decide) ?_
              refine lv_irem hx hb dL_law_657 (by decide) ?_
              refine c_top (show (((nI k) + 1) - ((nI k) + 1) / 8 * 8) = nI ((k + 1) % 8) from m8_1 k hkn) ?_
              have hk8_0 : ((k + 1) % 8) < 8 := Nat.mod_lt _ (by decide)
              refine c_aaload hx hb hKA hP 13 1 rfl rfl (vp_in_nI (n := ((k + 1) % 8)) hk8_0 (by decide)) (by rw [nI_clamp (by omega)]; exact if_pos hk8_0) dL_law_658 ?_
              refine lv_iload hx hb dL_law_659 (lv_at hl 10 rfl) ?_
              refine va_iald hx hb hKA hP (14 + ((k + 1) % 8)) 0 (hrow _ hk8_0) rfl (vp_in_nI (n := (i + 3)) (show (i + 3) < 32 by omega) (by decide)) dL_law_661 ?_
              refine c_top (show (g ((k + 1) % 8) (nI (i + 3)).toNatClampNeg) = awN (goS (safS fo fl pl (nI u)) d r) ((k + 1) % 8) (i + 3) from by rw [nI_clamp (by omega)]; exact hg _ hk8_0 _ (by omega)) ?_
              refine lv_iload hx hb dL_law_662 (lv_at hl 1 rfl) ?_
              refine lv_iconst (v := 1) hx hb dL_law_664 (by decide) ?_
              refine lv_isub hx hb dL_law_665 ?_
              refine c_top (show ((nI j) - 1) = nI jp9 from hm1) ?_
              refine lv_icmp_eq (tgt := 724) hx hb dL_law_666 (by decide) (fun c_76 => ?_) (fun c_76 => ?_)
              · exact c724
              · refine lv_aload hx hb dL_law_669 (lv_at hl 8 rfl) ?_
                refine lv_iload hx hb dL_law_671 (lv_at hl 9 rfl) ?_
                refine lv_bipush (v := 7) hx hb dL_law_673 (by decide) ?_
                refine lv_iadd hx hb dL_law_675 ?_
                refine lv_bipush (v := 8) hx hb dL_law_676 (by decide) ?_
                refine lv_irem hx hb dL_law_678 (by decide) ?_
                refine c_top (show (((nI k) + 7) - ((nI k) + 7) / 8 * 8) = nI ((k + 7) % 8) from m8_7 k hkn) ?_
                have hk8_1 : ((k + 7) % 8) < 8 := Nat.mod_lt _ (by decide)
                refine c_aaload hx hb hKA hP 13 1 rfl rfl (vp_in_nI (n := ((k + 7) % 8)) hk8_1 (by decide)) (by rw [nI_clamp (by omega)]; exact if_pos hk8_1) dL_law_679 ?_
                refine lv_iload hx hb dL_law_680 (lv_at hl 10 rfl) ?_
                refine va_iald hx hb hKA hP (14 + ((k + 7) % 8)) 0 (hrow _ hk8_1) rfl (vp_in_nI (n := (i + 3)) (show (i + 3) < 32 by omega) (by decide)) dL_law_682 ?_
                refine c_top (show (g ((k + 7) % 8) (nI (i + 3)).toNatClampNeg) = awN (goS (safS fo fl pl (nI u)) d r) ((k + 7) % 8) (i + 3) from by rw [nI_clamp (by omega)]; exact hg _ hk8_1 _ (by omega)) ?_
                refine lv_iload hx hb dL_law_683 (lv_at hl 1 rfl) ?_
                refine lv_iconst (v := 1) hx hb dL_law_685 (by decide) ?_
                refine lv_isub hx hb dL_law_686 ?_
                refine c_top (show ((nI j) - 1) = nI jp9 from hm1) ?_
                refine lv_icmp_eq (tgt := 724) hx hb dL_law_687 (by decide) (fun c_77 => ?_) (fun c_77 => ?_)
                · exact c724
                · refine lv_aload hx hb dL_law_690 (lv_at hl 8 rfl) ?_
                  refine lv_iload hx hb dL_law_692 (lv_at hl 9 rfl) ?_
                  refine c_aaload hx hb hKA hP 13 1 rfl rfl (vp_in_nI (n := k) hkn (by decide)) (by rw [nI_clamp (by omega)]; exact if_pos hkn) dL_law_694 ?_
                  refine lv_iload hx hb dL_law_695 (lv_at hl 10 rfl) ?_
                  refine lv_iconst (v := 1) hx hb dL_law_697 (by decide) ?_
                  refine lv_iadd hx hb dL_law_698 ?_
                  refine c_top (show ((nI (i + 3)) + 1) = nI (i + 3 + 1) from nI_1 _) ?_
                  refine va_iald hx hb hKA hP (14 + k) 0 (hrow _ hkn) rfl (vp_in_nI (n := (i + 3 + 1)) (show (i + 3 + 1) < 32 by omega) (by decide)) dL_law_699 ?_
                  refine c_top (show (g k (nI (i + 3 + 1)).toNatClampNeg) = awN (goS (safS fo fl pl (nI u)) d r) k (i + 3 + 1) from by rw [nI_clamp (by omega)]; exact hg _ hkn _ (by omega)) ?_
                  refine lv_iload hx hb dL_law_700 (lv_at hl 1 rfl) ?_
                  refine lv_iconst (v := 1) hx hb dL_law_702 (by decide) ?_
                  refine lv_isub hx hb dL_law_703 ?_
                  refine c_top (show ((nI j) - 1) = nI jp9 from hm1) ?_
                  refine lv_icmp_eq (tgt := 724) hx hb dL_law_704 (by decide) (fun c_78 => ?_) (fun c_78 => ?_)
                  · exact c724
                  · refine lv_aload hx hb dL_law_707 (lv_at hl 8 rfl) ?_
                    refine lv_iload hx hb dL_law_709 (lv_at hl 9 rfl) ?_
                    refine c_aaload hx hb hKA hP 13 1 rfl rfl (vp_in_nI (n := k) hkn (by decide)) (by rw [nI_clamp (by omega)]; exact if_pos hkn) dL_law_711 ?_
                    refine lv_iload hx hb dL_law_712 (lv_at hl 10 rfl) ?_
                    refine lv_iconst (v := 1) hx hb dL_law_714 (by decide) ?_
                    refine lv_isub hx hb dL_law_715 ?_
                    refine c_top (show ((nI (i + 3)) - 1) = nI (i + 3 - 1) from pk_sub (b := 1) (by omega)) ?_
                    refine va_iald hx hb hKA hP (14 + k) 0 (hrow _ hkn) rfl (vp_in_nI (n := (i + 3 - 1)) (show (i + 3 - 1) < 32 by omega) (by decide)) dL_law_716 ?_
                    refine c_top (show (g k (nI (i + 3 - 1)).toNatClampNeg) = awN (goS (safS fo fl pl (nI u)) d r) k (i + 3 - 1) from by rw [nI_clamp (by omega)]; exact hg _ hkn _ (by omega)) ?_
                    refine lv_iload hx hb dL_law_717 (lv_at hl 1 rfl) ?_
                    refine lv_iconst (v := 1) hx hb dL_law_719 (by decide) ?_
                    refine lv_isub hx hb dL_law_720 ?_
                    refine c_top (show ((nI j) - 1) = nI jp9 from hm1) ?_
                    refine lv_icmp_ne (tgt := 728) hx hb dL_law_721 (by decide) (fun c_79 => absurd (((hnb.resolve_left c_76).resolve_left c_77).resolve_left c_78) c_79) (fun _ => ?_)
                    exact c724
      refine lv_iconst (v := 3) hx hb dL_law_613 (by decide) ?_
      refine lv_istore (lv' := [(17, .int 3), (0, .ref b), (1, .ref x), (2, .ref sm), (3, .int (nI t)), (5, .long (digS d r ld li tl mo pl fo fl)), (8, .int (nI u)), (15, .ref q), (14, .int (nI ct)), (16, .int (nI k))]) hx hb dL_law_614 hl (by decide) rfl (fun ls hl => ?_)
      have hl : lv_has ls 21 [(17, .int (nI (0 + 3))), (0, .ref b), (1, .ref x), (2, .ref sm), (3, .int (nI t)), (5, .long (digS d r ld li tl mo pl fo fl)), (8, .int (nI u)), (15, .ref q), (14, .int (nI ct)), (16, .int (nI k))] := (show 3 = nI (0 + 3) from rfl) ▸ hl
      exact loop2 28 0 ct _ _ _ (by omega) hct (lv_sub hl [1, 2, 3, 4, 5, 6, 7, 8, 9, 0] rfl) hP hD hS
  exact loop1 8 0 0 _ _ _ (by omega) rfl (lv_sub hl [1, 2, 3, 4, 5, 6, 8, 7, 0] rfl) hP hD hS
