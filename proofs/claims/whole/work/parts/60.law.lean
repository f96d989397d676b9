theorem c_len {i L : Nat} (hL : L ≤ 2048) (hi : i ≤ 2052) (h : ¬ nI i > nI L - 4) : i + 4 ≤ L := by
  rcases Nat.lt_or_ge L 4 with z | z
  · exfalso
    apply h
    have h1 : ∀ k, k < 4 → nI k - 4 < (0 : Int32) := by decide
    exact Int32.lt_of_lt_of_le (h1 L z) (nI_pos' (by omega))
  · rcases Nat.lt_or_ge L (i + 4) with y | y
    · exfalso
      apply h
      have e : nI L - 4 = nI (L - 4) := by
        have e1 : nI L = nI (L - 4) + nI 4 := by rw [nI_add, Nat.sub_add_cancel z]
        rw [e1]
        exact Int32.add_sub_cancel _ _
      rw [e]
      exact nI_lt (by omega) (by omega)
    · exact y
set_option maxHeartbeats 4000000 in
set_option maxRecDepth 100000 in
/-- the loop steps on -/
theorem law_tail {p : Program} {l : Launch} {e : Env} {s : State} {m : MethodId} {args : Array Value} {below : List Frame} {meth : Method} {c : Code} {Q : State → Prop} {b L : Nat} {xs : Nat → Int32} {L0 : Nat} {D : va_G} {cI cJ : ClassId} {x rg tr pn ro rl t0 t1 pm pf mm ao al aw aq qo : Nat} (C0 : lwCtx p l s m args c b L xs L0 D cI cJ) {i K M : Nat} (nx : lwNext p l e s m args below meth c Q b L0 D cI cJ x rg tr pn ro rl t0 t1 pm pf mm ao al aw aq qo 23 (i + 4) K M) : lwNext p l e s m args below meth c Q b L0 D cI cJ x rg tr pn ro rl t0 t1 pm pf mm ao al aw aq qo 1459 i K M := by
  obtain ⟨hx, hb, hml, hown, hts, hX, hbl, hL0, hK, hE0, hfl⟩ := id C0
  have hAL : ∀ z9 : Nat, (fun z9 : Nat => L0 ≤ z9) z9 → L0 ≤ z9 := fun _ h9 => h9
  have hbA : ¬ (fun z9 : Nat => L0 ≤ z9) b := by show ¬ L0 ≤ b; exact Nat.not_le.mpr (hL0 ▸ hbl)
  intro d r ld li tl mo pl fo fl jp jo jl jn jm jf th mn fa fq g0 H ls hI hP hD hS hl
  refine lv_iinc (v := nI (i + 4)) (lv' := [(4, .int (nI (i + 4))), (0, .ref b), (1, .ref x), (2, .ref mm), (3, .ref qo)]) hx hb dL_law_1459 hl (k := 4) rfl (show nI i + Int32.ofInt 4 = nI (i + 4) from by rw [show Int32.ofInt 4 = nI 4 from by decide, nI_add]) (by decide) rfl (fun ls hl => ?_)
  refine lv_goto (tgt := 23) hx hb dL_law_1462 (by decide) ?_
  exact nx d r ld li tl mo pl fo fl jp jo jl jn jm jf th mn fa fq g0 H ls hI hP hD hS (lv_sub hl [1, 2, 3, 4, 0] rfl)
set_option maxHeartbeats 4000000 in
set_option maxRecDepth 100000 in
/-- the loop asks whether four ints are left -/
theorem law_head {p : Program} {l : Launch} {e : Env} {s : State} {m : MethodId} {args : Array Value} {below : List Frame} {meth : Method} {c : Code} {Q : State → Prop} {b L : Nat} {xs : Nat → Int32} {L0 : Nat} {D : va_G} {cI cJ : ClassId} {x rg tr pn ro rl t0 t1 pm pf mm ao al aw aq qo : Nat} (C0 : lwCtx p l s m args c b L xs L0 D cI cJ) {i K M : Nat} (hL : L ≤ 2048) (hi : i ≤ 2052) (nx : i + 4 ≤ L → lwNext p l e s m args below meth c Q b L0 D cI cJ x rg tr pn ro rl t0 t1 pm pf mm ao al aw aq qo 32 i K M) (ex : ∀ (H : Heap) (ls : Array Slot), W p l e room_1 s m args below meth c H [] K M Q (F0 m 1465 ls [])) : lwNext p l e s m args below meth c Q b L0 D cI cJ x rg tr pn ro rl t0 t1 pm pf mm ao al aw aq qo 23 i K M := by
  obtain ⟨hx, hb, hml, hown, hts, hX, hbl, hL0, hK, hE0, hfl⟩ := id C0
  have hAL : ∀ z9 : Nat, (fun z9 : Nat => L0 ≤ z9) z9 → L0 ≤ z9 := fun _ h9 => h9
  have hbA : ¬ (fun z9 : Nat => L0 ≤ z9) b := by show ¬ L0 ≤ b; exact Nat.not_le.mpr (hL0 ▸ hbl)
  intro d r ld li tl mo pl fo fl jp jo jl jn jm jf th mn fa fq g0 H ls hI hP hD hS hl
  refine lv_iload hx hb dL_law_23 (lv_at hl 4 rfl) ?_
  refine lv_aload_n hx hb dL_law_25 rfl (lv_at hl 0 rfl) ?_
  refine va_slen hx hb hX hbl hbA hS dL_law_26 ?_
  refine lv_iconst (v := 4) hx hb dL_law_27 (by decide) ?_
  refine lv_isub hx hb dL_law_28 ?_
  refine lv_icmp_gt (tgt := 1465) hx hb dL_law_29 (by decide) (fun _ => ?_) (fun hc => ?_)
  · exact ex H ls
  · exact nx (c_len hL hi hc) d r ld li tl mo pl fo fl jp jo jl jn jm jf th mn fa fq g0 H ls hI hP hD hS hl
set_option maxHeartbeats 4000000 in
set_option maxRecDepth 100000 in
/-- one operation of the script -/
theorem law_step {p : Program} {l : Launch} {e : Env} {s : State} {m : MethodId} {args : Array Value} {below : List Frame} {meth : Method} {c : Code} {Q : State → Prop} {b L : Nat} {xs : Nat → Int32} {L0 : Nat} {D : va_G} {cI cJ : ClassId} {x rg tr pn ro rl t0 t1 pm pf mm ao al aw aq qo : Nat} (C0 : lwCtx p l s m args c b L xs L0 D cI cJ) {d0 : Drawn} (hd1 : s.drawn.sameBut d0 lw_cs) {i K M : Nat} (hL : L ≤ 2048) (hi : i + 4 ≤ L) (hKr : K + 4 ≤ 601024) (hMr : M + 32 ≤ 7293034) (nx : ∀ d9 : Drawn, s.drawn.sameBut d9 lw_cs → lwNext p l e (s.setDrawn d9) m args below meth c Q b L0 D cI cJ x rg tr pn ro rl t0 t1 pm pf mm ao al aw aq qo 1459 i (K + 4) (M + 32)) : lwNext p l e (s.setDrawn d0) m args below meth c Q b L0 D cI cJ x rg tr pn ro rl t0 t1 pm pf mm ao al aw aq qo 32 i K M := by
  obtain ⟨hx, hb, hml, hown, hts, hX, hbl, hL0, hK, hE0, hfl⟩ := C0.drawn d0
  have hAL : ∀ z9 : Nat, (fun z9 : Nat => L0 ≤ z9) z9 → L0 ≤ z9 := fun _ h9 => h9
  have hbA : ¬ (fun z9 : Nat => L0 ≤ z9) b := by show ¬ L0 ≤ b; exact Nat.not_le.mpr (hL0 ▸ hbl)
  intro d r ld li tl mo pl fo fl jp jo jl jn jm jf th mn fa fq g0 H ls hI hP hD hS hl
  have hS : va_S (fun z9 : Nat => L0 ≤ z9) (s.setDrawn d0).heap H [] := hS
  have hi0 : vp_in (nI i) L := vp_in_nI (by omega) (by omega)
  have hi1 : vp_in (nI i + 1) L := by show vp_in (nI i + nI 1) L; rw [nI_add]; exact vp_in_nI (by omega) (by omega)
  have hi2 : vp_in (nI i + 2) L := by show vp_in (nI i + nI 2) L; rw [nI_add]; exact vp_in_nI (by omega) (by omega)
  have hi3 : vp_in (nI i + 3) L := by show vp_in (nI i + nI 3) L; rw [nI_add]; exact vp_in_nI (by omega) (by omega)
  refine lv_aload_n hx hb dL_law_32 rfl (lv_at hl 0 rfl) ?_
  refine lv_iload hx hb dL_law_33 (lv_at hl 4 rfl) ?_
  refine va_sld hx hb hX hbl hbA hS hi0 dL_law_35 ?_
  refine lv_bipush (v := 31) hx hb dL_law_36 (by decide) ?_
  refine lv_iand hx hb dL_law_38 ?_
  obtain ⟨j, hj, ej⟩ := pk_andE (xs (nI i).toNatClampNeg) (m := 31) 5 (by decide)
  refine c_top ej ?_
  rcases (show j = 0 ∨ j = 1 ∨ j = 2 ∨ j = 3 ∨ j = 4 ∨ j = 5 ∨ j = 6 ∨ j = 7 ∨ j = 8 ∨ j = 9 ∨ j = 10 ∨ j = 11 ∨ j = 12 ∨ j = 13 ∨ j = 14 ∨ j = 15 ∨ j = 16 ∨ j = 17 ∨ j = 18 ∨ j = 19 ∨ j = 20 ∨ j = 21 ∨ j = 22 ∨ j = 23 ∨ j = 24 ∨ j = 25 ∨ j = 26 ∨ j = 27 ∨ 28 ≤ j by omega) with rfl | rfl | rfl | rfl | rfl | rfl | rfl | rfl | rfl | rfl | rfl | rfl | rfl | rfl | rfl | rfl | rfl | rfl | rfl | rfl | rfl | rfl | rfl | rfl | rfl | rfl | rfl | rfl | hj2
  · refine lv_tableIn (off := 125) (tgt := 164) hx hb dL_law_39 (by decide +kernel) (by decide +kernel) (by decide +kernel) (by decide) ?_
    exact law_c0 (C0.drawn d0) rfl rfl rfl hi1 hi2 hi3 hKr hMr (nx d0 hd1) d r ld li tl mo pl fo fl jp jo jl jn jm jf th mn fa fq g0 H ls hI hP hD hS hl
  · refine lv_tableIn (off := 181) (tgt := 220) hx hb dL_law_39 (by decide +kernel) (by decide +kernel) (by decide +kernel) (by decide) ?_
    exact law_c1 (C0.drawn d0) rfl rfl rfl hi1 hi2 hi3 hKr hMr (nx d0 hd1) d r ld li tl mo pl fo fl jp jo jl jn jm jf th mn fa fq g0 H ls hI hP hD hS hl
  · refine lv_tableIn (off := 249) (tgt := 288) hx hb dL_law_39 (by decide +kernel) (by decide +kernel) (by decide +kernel) (by decide) ?_
    exact law_c2 (C0.drawn d0) rfl rfl rfl hi1 hi2 hi3 hKr hMr (nx d0 hd1) d r ld li tl mo pl fo fl jp jo jl jn jm jf th mn fa fq g0 H ls hI hP hD hS hl
  · refine lv_tableIn (off := 317) (tgt := 356) hx hb dL_law_39 (by decide +kernel) (by decide +kernel) (by decide +kernel) (by decide) ?_
    exact law_c3 (C0.drawn d0) rfl rfl rfl hi1 hi2 hi3 hKr hMr (nx d0 hd1) d r ld li tl mo pl fo fl jp jo jl jn jm jf th mn fa fq g0 H ls hI hP hD hS hl
  · refine lv_tableIn (off := 373) (tgt := 412) hx hb dL_law_39 (by decide +kernel) (by decide +kernel) (by decide +kernel) (by decide) ?_
    exact law_c4 (C0.drawn d0) rfl rfl rfl hi1 hi2 hi3 hKr hMr (nx d0 hd1) d r ld li tl mo pl fo fl jp jo jl jn jm jf th mn fa fq g0 H ls hI hP hD hS hl
  · refine lv_tableIn (off := 417) (tgt := 456) hx hb dL_law_39 (by decide +kernel) (by decide +kernel) (by decide +kernel) (by decide) ?_
    exact law_c5 (C0.drawn d0) rfl rfl rfl hi1 hi2 hi3 hKr hMr (nx d0 hd1) d r ld li tl mo pl fo fl jp jo jl jn jm jf th mn fa fq g0 H ls hI hP hD hS hl
  · refine lv_tableIn (off := 501) (tgt := 540) hx hb dL_law_39 (by decide +kernel) (by decide +kernel) (by decide +kernel) (by decide) ?_
    exact law_c6 (C0.drawn d0) rfl rfl rfl hi1 hi2 hi3 hKr hMr (nx d0 hd1) d r ld li tl mo pl fo fl jp jo jl jn jm jf th mn fa fq g0 H ls hI hP hD hS hl
  · refine lv_tableIn (off := 585) (tgt := 624) hx hb dL_law_39 (by decide +kernel) (by decide +kernel) (by decide +kernel) (by decide) ?_
    exact law_c7 (C0.drawn d0) rfl rfl rfl hi1 hi2 hi3 hKr hMr (nx d0 hd1) d r ld li tl mo pl fo fl jp jo jl jn jm jf th mn fa fq g0 H ls hI hP hD hS hl
  · refine lv_tableIn (off := 598) (tgt := 637) hx hb dL_law_39 (by decide +kernel) (by decide +kernel) (by decide +kernel) (by decide) ?_
    exact law_c8 (C0.drawn d0) rfl rfl rfl hi1 hi2 hi3 hKr hMr (nx d0 hd1) d r ld li tl mo pl fo fl jp jo jl jn jm jf th mn fa fq g0 H ls hI hP hD hS hl
  · refine lv_tableIn (off := 611) (tgt := 650) hx hb dL_law_39 (by decide +kernel) (by decide +kernel) (by decide +kernel) (by decide) ?_
    exact law_c9 (C0.drawn d0) rfl rfl rfl hi1 hi2 hi3 hKr hMr (nx d0 hd1) d r ld li tl mo pl fo fl jp jo jl jn jm jf th mn fa fq g0 H ls hI hP hD hS hl
  · refine lv_tableIn (off := 624) (tgt := 663) hx hb dL_law_39 (by decide +kernel) (by decide +kernel) (by decide +kernel) (by decide) ?_
    exact law_c10 (C0.drawn d0) rfl rfl rfl hi1 hi2 hi3 hKr hMr (nx d0 hd1) d r ld li tl mo pl fo fl jp jo jl jn jm jf th mn fa fq g0 H ls hI hP hD hS hl
  · refine lv_tableIn (off := 637) (tgt := 676) hx hb dL_law_39 (by decide +kernel) (by decide +kernel) (by decide +kernel) (by decide) ?_
    exact law_c11 (C0.drawn d0) rfl rfl rfl hi1 hi2 hi3 hKr hMr (nx d0 hd1) d r ld li tl mo pl fo fl jp jo jl jn jm jf th mn fa fq g0 H ls hI hP hD hS hl
  · refine lv_tableIn (off := 693) (tgt := 732) hx hb dL_law_39 (by decide +kernel) (by decide +kernel) (by decide +kernel) (by decide) ?_
    exact law_c12 (C0.drawn d0) rfl rfl rfl hi1 hi2 hi3 hKr hMr (nx d0 hd1) d r ld li tl mo pl fo fl jp jo jl jn jm jf th mn fa fq g0 H ls hI hP hD hS hl
  · refine lv_tableIn (off := 749) (tgt := 788) hx hb dL_law_39 (by decide +kernel) (by decide +kernel) (by decide +kernel) (by decide) ?_
    exact law_c13 (C0.drawn d0) rfl rfl rfl hi1 hi2 hi3 hKr hMr (nx d0 hd1) d r ld li tl mo pl fo fl jp jo jl jn jm jf th mn fa fq g0 H ls hI hP hD hS hl
  · refine lv_tableIn (off := 805) (tgt := 844) hx hb dL_law_39 (by decide +kernel) (by decide +kernel) (by decide +kernel) (by decide) ?_
    exact law_c14 (C0.drawn d0) rfl rfl rfl hi1 hi2 hi3 hKr hMr (nx d0 hd1) d r ld li tl mo pl fo fl jp jo jl jn jm jf th mn fa fq g0 H ls hI hP hD hS hl
  · refine lv_tableIn (off := 818) (tgt := 857) hx hb dL_law_39 (by decide +kernel) (by decide +kernel) (by decide +kernel) (by decide) ?_
    exact law_c15 (C0.drawn d0) rfl rfl rfl hi1 hi2 hi3 hKr hMr (nx d0 hd1) d r ld li tl mo pl fo fl jp jo jl jn jm jf th mn fa fq g0 H ls hI hP hD hS hl
  · refine lv_tableIn (off := 831) (tgt := 870) hx hb dL_law_39 (by decide +kernel) (by decide +kernel) (by decide +kernel) (by decide) ?_
    exact law_c16 (C0.drawn d0) rfl rfl rfl hi1 hi2 hi3 hKr hMr (nx d0 hd1) d r ld li tl mo pl fo fl jp jo jl jn jm jf th mn fa fq g0 H ls hI hP hD hS hl
  · refine lv_tableIn (off := 844) (tgt := 883) hx hb dL_law_39 (by decide +kernel) (by decide +kernel) (by decide +kernel) (by decide) ?_
    exact law_c17 (C0.drawn d0) rfl rfl rfl hi1 hi2 hi3 hKr hMr (nx d0 hd1) d r ld li tl mo pl fo fl jp jo jl jn jm jf th mn fa fq g0 H ls hI hP hD hS hl
  · refine lv_tableIn (off := 857) (tgt := 896) hx hb dL_law_39 (by decide +kernel) (by decide +kernel) (by decide +kernel) (by decide) ?_
    exact law_c18 (C0.drawn d0) rfl rfl rfl hi1 hi2 hi3 hKr hMr (nx d0 hd1) d r ld li tl mo pl fo fl jp jo jl jn jm jf th mn fa fq g0 H ls hI hP hD hS hl
  · refine lv_tableIn (off := 944) (tgt := 983) hx hb dL_law_39 (by decide +kernel) (by decide +kernel) (by decide +kernel) (by decide) ?_
    exact law_c19 (C0.drawn d0) rfl rfl rfl hi1 hi2 hi3 hKr hMr (nx d0 hd1) d r ld li tl mo pl fo fl jp jo jl jn jm jf th mn fa fq g0 H ls hI hP hD hS hl
  · refine lv_tableIn (off := 957) (tgt := 996) hx hb dL_law_39 (by decide +kernel) (by decide +kernel) (by decide +kernel) (by decide) ?_
    exact law_c20 (C0.drawn d0) rfl rfl rfl hi1 hi2 hi3 hKr hMr (nx d0 hd1) d r ld li tl mo pl fo fl jp jo jl jn jm jf th mn fa fq g0 H ls hI hP hD hS hl
  · refine lv_tableIn (off := 1025) (tgt := 1064) hx hb dL_law_39 (by decide +kernel) (by decide +kernel) (by decide +kernel) (by decide) ?_
    exact law_c21 (C0.drawn d0) rfl rfl rfl hi1 hi2 hi3 hKr hMr (nx d0 hd1) d r ld li tl mo pl fo fl jp jo jl jn jm jf th mn fa fq g0 H ls hI hP hD hS hl
  · refine lv_tableIn (off := 1093) (tgt := 1132) hx hb dL_law_39 (by decide +kernel) (by decide +kernel) (by decide +kernel) (by decide) ?_
    exact law_c22 (C0.drawn d0) rfl rfl rfl hi1 hi2 hi3 hKr hMr (nx d0 hd1) d r ld li tl mo pl fo fl jp jo jl jn jm jf th mn fa fq g0 H ls hI hP hD hS hl
  · refine lv_tableIn (off := 1173) (tgt := 1212) hx hb dL_law_39 (by decide +kernel) (by decide +kernel) (by decide +kernel) (by decide) ?_
    exact law_c23 (C0.drawn d0) rfl rfl rfl hi1 hi2 hi3 hKr hMr (nx d0 hd1) d r ld li tl mo pl fo fl jp jo jl jn jm jf th mn fa fq g0 H ls hI hP hD hS hl
  · refine lv_tableIn (off := 1253) (tgt := 1292) hx hb dL_law_39 (by decide +kernel) (by decide +kernel) (by decide +kernel) (by decide) ?_
    exact law_c24 (C0.drawn d0) rfl rfl rfl hi1 hi2 hi3 hKr hMr (nx d0 hd1) d r ld li tl mo pl fo fl jp jo jl jn jm jf th mn fa fq g0 H ls hI hP hD hS hl
  · refine lv_tableIn (off := 1309) (tgt := 1348) hx hb dL_law_39 (by decide +kernel) (by decide +kernel) (by decide +kernel) (by decide) ?_
    exact law_c25 (C0.drawn d0) rfl rfl rfl hi1 hi2 hi3 hKr hMr (nx d0 hd1) d r ld li tl mo pl fo fl jp jo jl jn jm jf th mn fa fq g0 H ls hI hP hD hS hl
  · refine lv_tableIn (off := 1365) (tgt := 1404) hx hb dL_law_39 (by decide +kernel) (by decide +kernel) (by decide +kernel) (by decide) ?_
    exact law_c26 C0 hd1 rfl rfl rfl hi1 hi2 hi3 hKr hMr nx d r ld li tl mo pl fo fl jp jo jl jn jm jf th mn fa fq g0 H ls hI hP hD hS hl
  · refine lv_tableIn (off := 1406) (tgt := 1445) hx hb dL_law_39 (by decide +kernel) (by decide +kernel) (by decide +kernel) (by decide) ?_
    exact law_c27 (C0.drawn d0) rfl rfl rfl hi1 hi2 hi3 hKr hMr (nx d0 hd1) d r ld li tl mo pl fo fl jp jo jl jn jm jf th mn fa fq g0 H ls hI hP hD hS hl
  · refine lv_tableOut (tgt := 1459) hx hb dL_law_39 (Or.inr (by rw [nI_toInt (by omega)]; omega)) (by decide) ?_
    refine W.widen (k := K + 4) (n := M + 32) (by omega) (by omega) ?_
    exact nx d0 hd1 d r ld li tl mo pl fo fl jp jo jl jn jm jf th mn fa fq g0 H ls hI hP hD hS hl
set_option maxHeartbeats 4000000 in
set_option maxRecDepth 100000 in
/-- the end: the law answers 1 -/
theorem law_exit {p : Program} {l : Launch} {e : Env} {s : State} {m : MethodId} {below : List Frame} {meth : Method} {c : Code} {b L : Nat} {xs : Nat → Int32} {L0 : Nat} {D : va_G} {cI cJ : ClassId} (C0 : lwCtx p l s m #[Value.ref b] c b L xs L0 D cI cJ) (hr : meth.sig.returnType = ret) (hlocks : meth.locks = false) {d0 : Drawn} (hd1 : s.drawn.sameBut d0 lw_cs) {K M : Nat} (hKr : K ≤ 601024) (hMr : M ≤ 7293034) (H : Heap) (ls : Array Slot) : W p l e room_1 (s.setDrawn d0) m #[Value.ref b] below meth c H [] K M (lw_Z below #[Value.ref b] s) (F0 m 1465 ls []) := by
  obtain ⟨hx, hb, -⟩ := id C0
  refine lv_iconst (v := 1) hx hb dL_law_1465 (by decide) ?_
  refine W.widen (k := 601024) (n := 7293034) hKr hMr ?_
  exact lw_ret hd1 hx hb hr hlocks dL_law_1466
set_option maxHeartbeats 4000000 in
set_option maxRecDepth 100000 in
/-- the loop -/
theorem law_loop {p : Program} {l : Launch} {e : Env} {s : State} {m : MethodId} {below : List Frame} {meth : Method} {c : Code} {b L : Nat} {xs : Nat → Int32} {L0 : Nat} {D : va_G} {cI cJ : ClassId} {x rg tr pn ro rl t0 t1 pm pf mm ao al aw aq qo : Nat} (C0 : lwCtx p l s m #[Value.ref b] c b L xs L0 D cI cJ) (hr : meth.sig.returnType = ret) (hlocks : meth.locks = false) (hL : L ≤ 2048) : ∀ (n i K M : Nat), L ≤ i + n → i ≤ 2052 → K ≤ 16 + i → M ≤ 1075 + 8 * i → ∀ d0 : Drawn, s.drawn.sameBut d0 lw_cs → lwNext p l e (s.setDrawn d0) m #[Value.ref b] below meth c (lw_Z below #[Value.ref b] s) b L0 D cI cJ x rg tr pn ro rl t0 t1 pm pf mm ao al aw aq qo 23 i K M := by
  intro n
  induction n with
  | zero =>
    intro i K M h1 h2 h3 h4 d0 hd1
    exact law_head (C0.drawn d0) hL h2 (fun h => absurd h (by omega)) (fun H ls => law_exit C0 hr hlocks hd1 (by omega) (by omega) H ls)
  | succ n ih =>
    intro i K M h1 h2 h3 h4 d0 hd1
    exact law_head (C0.drawn d0) hL h2 (fun h => law_step C0 hd1 hL h (by omega) (by omega) (fun d9 hd9 => law_tail (C0.drawn d9) (ih (i + 4) (K + 4) (M + 32) (by omega) (by omega) (by omega) (by omega) d9 hd9))) (fun H ls => law_exit C0 hr hlocks hd1 (by omega) (by omega) H ls)
theorem c_arrc {args : Array Value} {s : State} {ty : FieldType} (h : (Cond.arrayClass ty).before args s = true) : ∃ cA : ClassId, ArrOfT s cA ty ∧ s.vm.findClass ("[" ++ ty.toString) = some cA := by
  obtain ⟨cA, kA, comp, h1, h2, h3⟩ := Cond.arrayClass_spec h
  exact ⟨cA, fun n z => ⟨fun k h => (by cases h), kA, h2, comp, h3⟩, h1⟩
theorem c_strs {b : Nat} {s : State} (hts : ∀ w ∈ lw_tbl, w.before #[Value.ref b] s = true) (hs : ∀ w ∈ flatC (Jvm.Cond.and given_1 narrow_1), w.before #[Value.ref b] s = true) : ∀ z ∈ kStrs, ∃ a, vk_R RX2 z.1 z.2 a s := by
  intro z hz
  simp only [kStrs, List.mem_cons, List.not_mem_nil, or_false] at hz
  rcases hz with rfl | rfl | rfl | rfl | rfl | rfl | rfl | rfl | rfl | rfl | rfl | rfl | rfl
  · obtain ⟨a, -, -, -, h, -⟩ := Cond.exactly_spec (hs (.exactly (.string RX2 111) "java/lang/String") (by decide +kernel))
    exact ⟨a, vk_R.of (hts (.stringRef RX2 111 "metres must be 1 to 30") (by decide +kernel)) h⟩
  · obtain ⟨a, -, -, -, h, -⟩ := Cond.exactly_spec (hs (.exactly (.string RX2 155) "java/lang/String") (by decide +kernel))
    exact ⟨a, vk_R.of (hts (.stringRef RX2 155 "it would not be safe then") (by decide +kernel)) h⟩
  · obtain ⟨a, -, -, -, h, -⟩ := Cond.exactly_spec (hs (.exactly (.string RX2 157) "java/lang/String") (by decide +kernel))
    exact ⟨a, vk_R.of (hts (.stringRef RX2 157 "a load hangs on the boom") (by decide +kernel)) h⟩
  · obtain ⟨a, -, -, -, h, -⟩ := Cond.exactly_spec (hs (.exactly (.string RX2 161) "java/lang/String") (by decide +kernel))
    exact ⟨a, vk_R.of (hts (.stringRef RX2 161 "side must be 0 to 3") (by decide +kernel)) h⟩
  · obtain ⟨a, -, -, -, h, -⟩ := Cond.exactly_spec (hs (.exactly (.string RX2 164) "java/lang/String") (by decide +kernel))
    exact ⟨a, vk_R.of (hts (.stringRef RX2 164 "direction must be 0 to 7") (by decide +kernel)) h⟩
  · obtain ⟨a, -, -, -, h, -⟩ := Cond.exactly_spec (hs (.exactly (.string RX2 166) "java/lang/String") (by decide +kernel))
    exact ⟨a, vk_R.of (hts (.stringRef RX2 166 "load must be 0 to 60") (by decide +kernel)) h⟩
  · obtain ⟨a, -, -, -, h, -⟩ := Cond.exactly_spec (hs (.exactly (.string RX2 168) "java/lang/String") (by decide +kernel))
    exact ⟨a, vk_R.of (hts (.stringRef RX2 168 "reach must be 3 to 30") (by decide +kernel)) h⟩
  · obtain ⟨a, -, -, -, h, -⟩ := Cond.exactly_spec (hs (.exactly (.string RX2 36) "java/lang/String") (by decide +kernel))
    exact ⟨a, vk_R.of (hts (.stringRef RX2 36 "plates must be 0 to 12") (by decide +kernel)) h⟩
  · obtain ⟨a, -, -, -, h, -⟩ := Cond.exactly_spec (hs (.exactly (.string RX2 59) "java/lang/String") (by decide +kernel))
    exact ⟨a, vk_R.of (hts (.stringRef RX2 59 "out must be 0 to 6") (by decide +kernel)) h⟩
  · obtain ⟨a, -, -, -, h, -⟩ := Cond.exactly_spec (hs (.exactly (.string RX2 75) "java/lang/String") (by decide +kernel))
    exact ⟨a, vk_R.of (hts (.stringRef RX2 75 "limit must be 0 to 60") (by decide +kernel)) h⟩
  · obtain ⟨a, -, -, -, h, -⟩ := Cond.exactly_spec (hs (.exactly (.string RX2 83) "java/lang/String") (by decide +kernel))
    exact ⟨a, vk_R.of (hts (.stringRef RX2 83 "load must be 1 to 60") (by decide +kernel)) h⟩
  · obtain ⟨a, -, -, -, h, -⟩ := Cond.exactly_spec (hs (.exactly (.string RX2 93) "java/lang/String") (by decide +kernel))
    exact ⟨a, vk_R.of (hts (.stringRef RX2 93 "no load hangs on the boom") (by decide +kernel)) h⟩
  · obtain ⟨a, -, -, -, h, -⟩ := Cond.exactly_spec (hs (.exactly (.string RX2 96) "java/lang/String") (by decide +kernel))
    exact ⟨a, vk_R.of (hts (.stringRef RX2 96 "steps must be 1 to 8") (by decide +kernel)) h⟩
theorem c_ground {b : Nat} {s : State} (hts : ∀ w ∈ lw_tbl, w.before #[Value.ref b] s = true) (hs : ∀ w ∈ flatC (Jvm.Cond.and given_1 narrow_1), w.before #[Value.ref b] s = true) : kE s.heap.size s s.heap := by
  have hA : ∀ a : Nat, a < s.heap.size → ¬ (fun q : Nat => s.heap.size ≤ q) a := fun a h => Nat.not_le.mpr h
  refine ⟨Nat.le_refl _, vx_Zqof (hts (.laysStatic Bundle.tN "UNASSIGNED_STACK" Bundle.steD) (by decide +kernel)) (hts (.initialized Bundle.tN) (by decide +kernel)) (hs (.isRef (.static Bundle.tN "UNASSIGNED_STACK" Bundle.steD)) (by decide +kernel)) hA, vx_Zqof (hts (.laysStatic Bundle.tN "SUPPRESSED_SENTINEL" Bundle.listD) (by decide +kernel)) (hts (.initialized Bundle.tN) (by decide +kernel)) (hs (.isRef (.static Bundle.tN "SUPPRESSED_SENTINEL" Bundle.listD)) (by decide +kernel)) hA, ?_, c_strs hts hs, ?_, ?_, ?_, ?_⟩
  · obtain ⟨t, ht, hT⟩ := va_Tof (tm := (.static "CraneReachModel" "SLANT" "[I")) (ty := .int) (N := 5) (f := kSl) (by decide) (hs (.arrayOf (.static "CraneReachModel" "SLANT" "[I") .int) (by decide +kernel)) (va_eqt (hs (.eq (.length (.static "CraneReachModel" "SLANT" "[I")) (.int 5)) (by decide +kernel))) (fun j hj => by
      rcases (show j = 0 ∨ j = 1 ∨ j = 2 ∨ j = 3 ∨ j = 4 by omega) with rfl | rfl | rfl | rfl | rfl
      · exact va_eqt (hs (.eq (.elem (.static "CraneReachModel" "SLANT" "[I") (.int 0)) (.int 10)) (by decide +kernel))
      · exact va_eqt (hs (.eq (.elem (.static "CraneReachModel" "SLANT" "[I") (.int 1)) (.int 7)) (by decide +kernel))
      · exact va_eqt (hs (.eq (.elem (.static "CraneReachModel" "SLANT" "[I") (.int 2)) (.int 0)) (by decide +kernel))
      · exact va_eqt (hs (.eq (.elem (.static "CraneReachModel" "SLANT" "[I") (.int 3)) (.int (-7))) (by decide +kernel))
      · exact va_eqt (hs (.eq (.elem (.static "CraneReachModel" "SLANT" "[I") (.int 4)) (.int (-10))) (by decide +kernel))) hA
    exact ⟨t, va_Zref (hts (.laysStatic "CraneReachModel" "SLANT" "[I") (by decide +kernel)) (hts (.initialized "CraneReachModel") (by decide +kernel)) ht hA, hT⟩
  · exact ⟨va_Nw.of (by decide +kernel) (hts _ (show Cond.methodLinkNest RX2 21 yX0_init "CraneReach" ∈ lw_tbl by decide +kernel)), va_Nw.of (by decide +kernel) (hts _ (show Cond.methodLinkNest RX0 34 yX2_turned "CraneReach" ∈ lw_tbl by decide +kernel)), va_Nw.of (by decide +kernel) (hts _ (show Cond.methodLinkNest RX0 43 yX2_isReach "CraneReach" ∈ lw_tbl by decide +kernel))⟩
  · exact ⟨va_Nw.of (by decide +kernel) (hts _ (show Cond.castable xIAE xIAE ∈ lw_tbl by decide +kernel)), va_Nw.of (by decide +kernel) (hts _ (show Cond.castable xISE xISE ∈ lw_tbl by decide +kernel)), va_Nw.of (by decide +kernel) (hts _ (show Cond.castable xIOB xIOB ∈ lw_tbl by decide +kernel))⟩
  · exact ⟨va_Nw.of (by decide +kernel) (hts _ (show Cond.declares (Bundle.initS "java/lang/RuntimeException") ∈ lw_tbl by decide +kernel)), va_Nw.of (by decide +kernel) (hts _ (show Cond.declares (Bundle.initS "java/lang/Exception") ∈ lw_tbl by decide +kernel)), va_Nw.of (by decide +kernel) (hts _ (show Cond.declares (Bundle.initS Bundle.tN) ∈ lw_tbl by decide +kernel))⟩
  · exact ⟨va_Nc.of (hs (.not (.castable xIAE xISE)) (by decide +kernel)), va_Nc.of (hs (.not (.castable xIAE xIOB)) (by decide +kernel)), va_Nc.of (hs (.not (.castable xISE xIAE)) (by decide +kernel)), va_Nc.of (hs (.not (.castable xISE xIOB)) (by decide +kernel)), va_Nc.of (hs (.not (.castable xIOB xIAE)) (by decide +kernel)), va_Nc.of (hs (.not (.castable xIOB xISE)) (by decide +kernel))⟩
