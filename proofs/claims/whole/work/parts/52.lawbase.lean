/-! THE CLAIM OUT OF ONE WALK OF THE LAW'S BODY. Your part is whole_start (and what it stands on); all else here is the same for every law, but numbers. -/
def R_law : String := "CraneReachLaw"
def lw_P (b : Addr) (xs : List Int32) (args : Array Value) (s : State) : Prop := args = #[.ref b] ∧ s.IntsAt b xs ∧ xs.length ≤ 2048 ∧ (Jvm.Cond.and given_1 narrow_1).before args s = true
/-- what a walk over the start with the record d0 says of its end, said of the start itself -/
theorem lw_closed {s t : State} {o : Outcome} {d0 : Drawn} {L : List Loc} {k n : Nat} (hd0 : s.drawn.sameBut d0 lw_cs) (hv : ∃ v, o = .returned v) (hW : (s.setDrawn d0).WarmedH t.vm) (hs : (s.setDrawn d0).sameButNew ({ t with vm := s.vm } : State) L k n) : State.butDraws s t lw_cs (fun t1 => Framed s o t1 L k n) := by
  have h2 : t.drawn = d0 := congrArg State.drawn hs.1
  refine ⟨⟨hv, hW, State.sameButNew.setDrawn hs s.drawn⟩, ?_, by decide⟩
  rw [h2]
  exact hd0
def lw_Q (_ : Array Value) (s : State) (o : Outcome) (t : State) : Prop := o = .returned (some (.int 1)) ∧ State.butDraws s t lw_cs (fun t1 => Framed s o t1 [] 601024 7293034)
def lw_Z (below : List Frame) (a : Array Value) (s : State) : State → Prop := fun t => ∃ o, t.status = .running ∧ Ended t below o ∧ lw_Q a s o t
/-- the law's own end, with 1 on the stack, nothing written that was there before, its room as the claim has it; d0: the record of draws at this point (at the entry s.drawn: begin with 'refine W.base ?_' and 'have hd0 := Drawn.sameBut.refl s.drawn lw_cs') -/
theorem lw_ret {p : Program} {l : Launch} {e : Env} {s : State} {m : MethodId} {below : List Frame} {meth : Method} {c : Code} {b : Nat} {d0 : Drawn} (hd0 : s.drawn.sameBut d0 lw_cs) (hx : p.tables.exec = Jvm.exec) (hb : c.code = code) (hr : meth.sig.returnType = ret) (hlocks : meth.locks = false) {pc : Nat} {H : Heap} {ls : Array Slot} (hdg : decode code pc = .ok (.ireturn, 1)) : W p l e room_1 (s.setDrawn d0) m #[Value.ref b] below meth c H [] 601024 7293034 (lw_Z below #[Value.ref b] s) (F0 m pc ls [.int 1]) := by
  intro T hT X
  obtain ⟨fs, hret, hrun, hended, hW, hframe⟩ := X.leave (v := some (.int 1)) (hlocks := hlocks) (fun h => by rw [hr] at h; cases h)
  have hmeth' : T.vm.method? m = some meth := X.method'
  refine ⟨T.setFrames fs, ?_, .returned (some (.int 1)), hrun, hended, rfl, lw_closed hd0 ⟨_, rfl⟩ hW hframe⟩
  jvm_step X.here [X.here.top, hx, hb, hdg, hmeth', hr, ret, narrow_b1]
  (try refine ⟨rfl, ?_⟩); (try refine ⟨rfl, ?_⟩)
  first | (intro acts; rw [hret _ acts rfl rfl rfl]) | rw [hret _ _ rfl rfl rfl]
  exact Steps.refl _
/-- what holds at the law's entry: the machine, the code, the tables' words (any of lw_tbl by 'hts w (by decide +kernel)'), the script of L ints xs at the cell b, what the Statement gives of the start (any of its parts by flat_of_before) -/
def lw_At (p : Program) (s : State) (m : MethodId) (meth : Method) (c : Code) (b L : Nat) (xs : Nat → Int32) : Prop :=
  p.tables.exec = Jvm.exec ∧ c.code = code ∧ meth.sig.returnType = ret ∧ c.maxLocals = 9 ∧ s.vm.findClass R_law = some m.cls ∧ (∀ w ∈ lw_tbl, w.before #[Value.ref b] s = true) ∧ va_X b L xs s s.heap ∧ b < s.heap.size ∧ meth.locks = false ∧ (Jvm.Cond.and given_1 narrow_1).before #[Value.ref b] s = true
/-! ===== the law: what its loop keeps ===== -/
def lwInv (d r : Nat) (ld pl : Int32) (fo fl : Nat → Int32) : Prop := d < 8 ∧ (3 ≤ r ∧ r ≤ 30) ∧ (∃ k, k ≤ 60 ∧ ld = nI k) ∧ safS fo fl pl ld d r = true ∧ ∀ k, k < 4 → fo k ≤ 6
theorem lwInv.ex {d r : Nat} {ld pl : Int32} {fo fl : Nat → Int32} (h : lwInv d r ld pl fo fl) : ∃ k, k ≤ 60 ∧ safS fo fl pl (nI k) d r = true := by
  obtain ⟨-, -, ⟨k, hk, rfl⟩, h4, -⟩ := h
  exact ⟨k, hk, h4⟩
theorem lwInv.ld {d r : Nat} {ld pl : Int32} {fo fl : Nat → Int32} (h : lwInv d r ld pl fo fl) : ¬ ld < 0 := by
  obtain ⟨-, -, ⟨k, hk, rfl⟩, -, -⟩ := h
  exact nI_pos (by omega)
theorem inv_0 : lwInv 0 3 0 0 (fun _ => 0) lim0 := ⟨by decide, by decide, ⟨0, by decide, rfl⟩, by decide +kernel, fun _ _ => by show (0 : Int32) ≤ 6; decide⟩
theorem inv_pl {d r : Nat} {ld pl : Int32} {fo fl : Nat → Int32} (v : Int32) (h : lwInv d r ld pl fo fl) : lwInv d r ld (if kSP (fun q => safS fo fl q ld d r) v = 0 then v else pl) fo fl := by
  obtain ⟨h1, h2, h3, h4, h5⟩ := h
  refine ⟨h1, h2, h3, ?_, h5⟩
  by_cases k : kSP (fun q => safS fo fl q ld d r) v = 0
  · rw [if_pos k]
    unfold kSP at k
    split at k
    · split at k
      · rename_i y; exact y
      · exact absurd k (by decide)
    · exact absurd k (by decide)
  · rw [if_neg k]; exact h4
theorem inv_fo {d r : Nat} {ld pl : Int32} {fo fl : Nat → Int32} (v u : Int32) (h : lwInv d r ld pl fo fl) : lwInv d r ld pl (if kSO ld (fun k q => safS (upd fo k q) fl pl ld d r) v u = 0 then upd fo v.toNatClampNeg u else fo) fl := by
  obtain ⟨h1, h2, h3, h4, h5⟩ := h
  by_cases k : kSO ld (fun k q => safS (upd fo k q) fl pl ld d r) v u = 0
  · rw [if_pos k]
    unfold kSO at k
    split at k
    · split at k
      · rename_i y6
        split at k
        · rename_i y
          refine ⟨h1, h2, h3, y.2, fun j hj => ?_⟩
          show (if j = v.toNatClampNeg then u else fo j) ≤ 6
          split
          · exact y6.2
          · exact h5 j hj
        · exact absurd k (by decide)
      · exact absurd k (by decide)
    · exact absurd k (by decide)
  · rw [if_neg k]; exact ⟨h1, h2, h3, h4, h5⟩
theorem inv_fl {d r : Nat} {ld pl : Int32} {fo fl : Nat → Int32} (v u : Int32) (h : lwInv d r ld pl fo fl) : lwInv d r ld pl fo (if kSL (fun k q => safS fo (upd fl k q) pl ld d r) v u = 0 then upd fl v.toNatClampNeg u else fl) := by
  obtain ⟨h1, h2, h3, h4, h5⟩ := h
  refine ⟨h1, h2, h3, ?_, h5⟩
  by_cases k : kSL (fun k q => safS fo (upd fl k q) pl ld d r) v u = 0
  · rw [if_pos k]
    unfold kSL at k
    split at k
    · split at k
      · rename_i y; exact y
      · exact absurd k (by decide)
    · exact absurd k (by decide)
  · rw [if_neg k]; exact h4
theorem inv_li {d r : Nat} {ld pl : Int32} {fo fl : Nat → Int32} (v : Int32) (h : lwInv d r ld pl fo fl) : lwInv d r (if kLi ld (fun q => safS fo fl pl q d r) v = 0 then v else ld) pl fo fl := by
  obtain ⟨h1, h2, h3, h4, h5⟩ := h
  by_cases k : kLi ld (fun q => safS fo fl pl q d r) v = 0
  · rw [if_pos k]
    unfold kLi at k
    split at k
    · rename_i y0
      split at k
      · rename_i y
        obtain ⟨j, hj, e⟩ := inR_n1 (n := 60) (by decide) y0
        exact ⟨h1, h2, ⟨j, hj.2, e⟩, y.2, h5⟩
      · exact absurd k (by decide)
    · exact absurd k (by decide)
  · rw [if_neg k]; exact ⟨h1, h2, h3, h4, h5⟩
theorem inv_sd {d r : Nat} {ld pl : Int32} {fo fl : Nat → Int32} (h : lwInv d r ld pl fo fl) : lwInv d r (if kSD ld (fun q => safS fo fl pl q d r) = 0 then 0 else ld) pl fo fl := by
  obtain ⟨h1, h2, h3, h4, h5⟩ := h
  by_cases k : kSD ld (fun q => safS fo fl pl q d r) = 0
  · rw [if_pos k]
    unfold kSD at k
    split at k
    · rename_i y
      exact ⟨h1, h2, ⟨0, by decide, rfl⟩, y.2, h5⟩
    · exact absurd k (by decide)
  · rw [if_neg k]; exact ⟨h1, h2, h3, h4, h5⟩
theorem inv_sw {d r : Nat} {ld pl : Int32} {fo fl : Nat → Int32} (P : Prop) [Decidable P] (cw : Bool) (n : Nat) (h : lwInv d r ld pl fo fl) : lwInv (if P then (swN (fun k => safS fo fl pl ld k r) cw n d).2 else d) r ld pl fo fl := by
  obtain ⟨h1, h2, h3, h4, h5⟩ := h
  by_cases k : P
  · rw [if_pos k]; exact ⟨swN_lt h1, h2, h3, swN_safe (sf := fun k => safS fo fl pl ld k r) h4, h5⟩
  · rw [if_neg k]; exact ⟨h1, h2, h3, h4, h5⟩
theorem inv_st {d r : Nat} {ld pl : Int32} {fo fl : Nat → Int32} (P : Prop) [Decidable P] (ou : Bool) (n : Nat) (h : lwInv d r ld pl fo fl) : lwInv d (if P then (stN (fun k => safS fo fl pl ld d k) ou n r).2 else r) ld pl fo fl := by
  obtain ⟨h1, h2, h3, h4, h5⟩ := h
  by_cases k : P
  · rw [if_pos k]; exact ⟨h1, stN_in h2, h3, stN_safe (sf := fun k => safS fo fl pl ld d k) h4, h5⟩
  · rw [if_neg k]; exact ⟨h1, h2, h3, h4, h5⟩
section CLW
variable {p : Program} {l : Launch} {e : Env} {R : Room} {s : State} {m : MethodId} {args : Array Value} {below : List Frame} {meth : Method} {c : Code} {H : Heap} {locs : List Loc} {cells slots : Nat} {Q : State → Prop} {cc : ByteArray} {pc : Nat} {ls : Array Slot} {rest st0 : List Value} {a : Array Value} {A0 A1 : Nat → Prop} {H0 : Heap} {mc ms : Nat} {free : Addr → Prop} {cs : List Choice}
theorem c_lcmp (hexec : p.tables.exec = Jvm.exec) (hb : c.code = cc) {x : Int64} (hdg : decode cc pc = .ok (.lcmp, 1)) (kk : W p l e R s m args below meth c H locs cells slots Q (F0 m (pc + 1) ls (.int 0 :: rest))) : W p l e R s m args below meth c H locs cells slots Q (F0 m pc ls (.long x :: .long x :: rest)) := by
  intro T hT X
  obtain ⟨t, a, b⟩ := kk T hT X
  refine ⟨t, ?_, b⟩
  jvm_step X.here [X.here.top, hexec, hb, hdg]
  exact a
theorem c_callDd {v : UInt64} {d0 : Drawn} (hd0 : s.drawn.sameBut d0 cs) (hr : va_RunD cs p l e R (s.setDrawn d0) m args below meth c H locs cells slots 0 0 (F0 m pc ls st0) rest (cDd v a) (fun _ => False))
    (kk : ∀ (r : UInt64) (d1 : Drawn), alike64 r v = true → s.drawn.sameBut d1 cs → W p l e R (s.setDrawn d1) m args below meth c H locs cells slots Q (F0 m (pc + 3) ls (.double r :: rest))) : W p l e R (s.setDrawn d0) m args below meth c H locs cells slots Q (F0 m pc ls st0) := by
  intro T hT X
  obtain ⟨v', st₀, t, T', L, d', hd', h0, X', hL, e1, e2, ⟨⟨r, hv, hal⟩, hh⟩, st⟩ := hr T hT X
  cases hv
  obtain ⟨t2, a1, b1⟩ := kk r d' hal (hd0.trans hd') T' (by rw [e1, hh, h0]) (Stand.forget X' (fun q h => (hL q h).elim))
  exact ⟨t2, st t2 a1, b1⟩
theorem c_callDw {v : UInt64} {B : Heap → Prop} {d0 : Drawn} (hd0 : s.drawn.sameBut d0 cs) (hr : va_RunD cs p l e R (s.setDrawn d0) m args below meth c H locs cells slots mc ms (F0 m pc ls st0) rest (cDw v B A1 a) free) (hS : va_S A0 H0 H locs) (hA : ∀ q, q < H.size → A1 q → A0 q) (hf : ∀ q, free q → A0 q)
    (kk : ∀ (r : UInt64) (d1 : Drawn) (H1 : Heap) (locs1 : List Loc), alike64 r v = true → s.drawn.sameBut d1 cs → B H1 → H.size ≤ H1.size → (∀ q : Nat, q < H.size → ¬ A1 q → H1[q]? = H[q]?) → va_S A0 H0 H1 locs1 → W p l e R (s.setDrawn d1) m args below meth c H1 locs1 (cells + mc) (slots + ms) Q (F0 m (pc + 3) ls (.double r :: rest))) : W p l e R (s.setDrawn d0) m args below meth c H locs cells slots Q (F0 m pc ls st0) := by
  intro T hT X
  obtain ⟨v', st₀, t, T', L, d', hd', h0, X', hL, e1, e2, ⟨⟨⟨r, hv, hal⟩, hb⟩, hF⟩, st⟩ := hr T hT X
  cases hv
  obtain ⟨k1, k2, k3⟩ := vx_keep h0 e1 hS hA hf hL hF
  obtain ⟨t2, a1, b1⟩ := kk r d' T'.heap (locs ++ L) hal (hd0.trans hd') (by rw [e1]; exact hb) k1 k2 k3 T' rfl X'
  exact ⟨t2, st t2 a1, b1⟩
end CLW
theorem c_nanD {x : UInt64} (h : isNaN64 x = true) : Jvm.FP.Core.decode Jvm.FP.Core.b64 x.toNat = .nan := by
  have h0 : 9218868437227405312 < x.toNat % 2 ^ 63 := by
    have h3 : (0x7ff0000000000000 : UInt64) < x &&& 0x7fffffffffffffff := of_decide_eq_true h
    have h4 : (0x7ff0000000000000 : UInt64).toNat < (x &&& 0x7fffffffffffffff).toNat := UInt64.lt_iff_toNat_lt.mp h3
    rw [UInt64.toNat_and, show (0x7fffffffffffffff : UInt64).toNat = 2 ^ 63 - 1 from by decide, Nat.and_two_pow_sub_one_eq_mod] at h4
    exact h4
  have hE : Jvm.FP.Core.fieldE Jvm.FP.Core.b64 x.toNat = Jvm.FP.Core.b64.exps - 1 := by
    show x.toNat / 4503599627370496 % 2048 = 2047
    omega
  have hT : ¬ Jvm.FP.Core.fieldT Jvm.FP.Core.b64 x.toNat = 0 := by
    show ¬ x.toNat % 4503599627370496 = 0
    omega
  rw [Jvm.FP.Core.decode, if_pos hE, if_neg hT]
theorem c_nan {x y : UInt64} (h : isNaN64 x = true) : FP.dcmp x y = none := by
  show Jvm.FP.Core.order (Jvm.FP.Core.decode Jvm.FP.Core.b64 x.toNat) (Jvm.FP.Core.decode Jvm.FP.Core.b64 y.toNat) = none
  rw [c_nanD h]
  generalize Jvm.FP.Core.decode Jvm.FP.Core.b64 y.toNat = z9
  cases z9 <;> rfl
/-- two that are alike to one: the same, or two NaNs -/
theorem c_alike {x y v : UInt64} (h1 : alike64 x v = true) (h2 : alike64 y v = true) : x = y ∨ (isNaN64 x = true ∧ isNaN64 y = true) := by
  unfold alike64 at h1 h2
  rcases Bool.or_eq_true_iff.mp h1 with a | a
  · rcases Bool.or_eq_true_iff.mp h2 with b | b
    · exact Or.inl ((of_decide_eq_true a).trans (of_decide_eq_true b).symm)
    · have e := of_decide_eq_true a
      have q := Bool.and_eq_true_iff.mp b
      exact Or.inr ⟨by rw [e]; exact q.2, q.1⟩
  · have q := Bool.and_eq_true_iff.mp a
    rcases Bool.or_eq_true_iff.mp h2 with b | b
    · have e := of_decide_eq_true b
      exact Or.inr ⟨q.1, by rw [e]; exact q.2⟩
    · exact Or.inr ⟨q.1, (Bool.and_eq_true_iff.mp b).1⟩
/-- the law's surroundings -/
def lwCtx (p : Program) (l : Launch) (s : State) (m : MethodId) (args : Array Value) (c : Code) (b L : Nat) (xs : Nat → Int32) (L0 : Nat) (D : va_G) (cI cJ : ClassId) : Prop :=
  p.tables.exec = Jvm.exec ∧ c.code = cL_law ∧ c.maxLocals = 9 ∧ s.vm.findClass RL = some m.cls ∧ (∀ w ∈ wsL_law, w.before args s = true) ∧ va_X b L xs s s.heap ∧ b < s.heap.size ∧ s.heap.size = L0 ∧ va_K D vwCl [(cI, .int), (cJ, .long)] s ∧ kE L0 s s.heap ∧ l.stackTraces = false
theorem lwCtx.drawn {p : Program} {l : Launch} {s : State} {m : MethodId} {args : Array Value} {c : Code} {b L : Nat} {xs : Nat → Int32} {L0 : Nat} {D : va_G} {cI cJ : ClassId} (h : lwCtx p l s m args c b L xs L0 D cI cJ) (d0 : Drawn) : lwCtx p l (s.setDrawn d0) m args c b L xs L0 D cI cJ := by
  obtain ⟨h1, h2, h3, h4, h5, h6, h7, h8, h9, h10, h11⟩ := h
  exact ⟨h1, h2, h3, h4, dr_words h5 d0, va_X.moved (u := s) (U := s.setDrawn d0) (Vm.Alike.refl s.vm) h6, h7, h8, va_K.moved (u := s) (U := s.setDrawn d0) (Vm.Alike.refl s.vm) h9, kE_same (s := s) (U := s.setDrawn d0) h10 rfl, h11⟩
/-- from here on, whatever the numbers are that the invariant allows -/
def lwNext (p : Program) (l : Launch) (e : Env) (s : State) (m : MethodId) (args : Array Value) (below : List Frame) (meth : Method) (c : Code) (Q : State → Prop) (b L0 : Nat) (D : va_G) (cI cJ : ClassId) (x rg tr pn ro rl t0 t1 pm pf mm ao al aw aq qo : Nat) (pc i K M : Nat) : Prop :=
  ∀ (d r : Nat) (ld li tl mo pl : Int32) (fo fl : Nat → Int32) (jp : Int32) (jo jl : Nat → Int32) (jn : Int32) (jm jf : Nat → Int32) (th mn : Int32) (fa fq : Nat → Int32) (g0 : Nat → Int64) (H : Heap) (ls : Array Slot), lwInv d r ld pl fo fl → va_P D vwCl [(x, .inr (2, [.ref rg, .ref tr, .ref pn, .int (nI d), .int (nI r), .int ld, .int li, .int tl, .int mo])), (rg, .inr (1, [.ref ro, .ref rl, .int pl])), (ro, .inl (cI, 4, .inl fo)), (rl, .inl (cI, 28, .inl (sh fl))), (tr, .inr (1, [.ref t0, .ref t1, .int jp])), (t0, .inl (cI, 4, .inl jo)), (t1, .inl (cI, 28, .inl jl)), (pn, .inr (0, [.ref pm, .ref pf, .int jn])), (pm, .inl (cI, 224, .inl jm)), (pf, .inl (cI, 224, .inl jf)), (mm, .inr (3, [.int th, .int (nI d), .int (nI r), .int ld, .int pl, .ref ao, .ref al, .int li, .int tl, .int mo, .ref aw, .ref aq, .int mn])), (ao, .inl (cI, 4, .inl fo)), (al, .inl (cI, 31, .inl fl)), (aw, .inl (cI, 248, .inl fa)), (aq, .inl (cI, 248, .inl fq)), (qo, .inl (cJ, 1, .inr (.inl g0)))] H → va_D (fun z9 : Nat => L0 ≤ z9) [(x, .inr (2, [.ref rg, .ref tr, .ref pn, .int (nI d), .int (nI r), .int ld, .int li, .int tl, .int mo])), (rg, .inr (1, [.ref ro, .ref rl, .int pl])), (ro, .inl (cI, 4, .inl fo)), (rl, .inl (cI, 28, .inl (sh fl))), (tr, .inr (1, [.ref t0, .ref t1, .int jp])), (t0, .inl (cI, 4, .inl jo)), (t1, .inl (cI, 28, .inl jl)), (pn, .inr (0, [.ref pm, .ref pf, .int jn])), (pm, .inl (cI, 224, .inl jm)), (pf, .inl (cI, 224, .inl jf)), (mm, .inr (3, [.int th, .int (nI d), .int (nI r), .int ld, .int pl, .ref ao, .ref al, .int li, .int tl, .int mo, .ref aw, .ref aq, .int mn])), (ao, .inl (cI, 4, .inl fo)), (al, .inl (cI, 31, .inl fl)), (aw, .inl (cI, 248, .inl fa)), (aq, .inl (cI, 248, .inl fq)), (qo, .inl (cJ, 1, .inr (.inl g0)))] → va_S (fun z9 : Nat => L0 ≤ z9) s.heap H [] → lv_has ls 9 [(0, .ref b), (1, .ref x), (2, .ref mm), (3, .ref qo), (4, .int (nI i))] → W p l e room_1 s m args below meth c H [] K M Q (F0 m pc ls [])
