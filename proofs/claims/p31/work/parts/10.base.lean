/-! ===== the words of this proof: what a call answers, the surroundings, how a world is changed in place ===== -/
abbrev vwCl : List vw_C := [(RX0, TX0, 3), (RX1, TX1, 3), (RX2, TX2, 9), (RX3, TX3, 9)]
def cA (ws : va_W) : Nat → Prop := fun q => ∃ (k : Nat) (e : va_E), ws[k]? = some (q, e)
/-- it answers v and leaves the heap as it is -/
def cR (v : Option Value) : Array Value → State → Outcome → State → Prop := fun _ st oc t => oc = .returned v ∧ t.heap = st.heap
/-- it answers v, B holds of the heap behind it, cells outside A are as they were -/
def cB (v : Option Value) (B : Heap → Prop) (A : Nat → Prop) : Array Value → State → Outcome → State → Prop := fun _ st oc t => (oc = .returned v ∧ B t.heap) ∧ va_F A st t
/-- it throws an E of which PX holds, and BX holds of the heap behind it -/
def cX (PX : String → Prop) (BX : Heap → Prop) (A : Nat → Prop) : String → State → State → Prop := fun E st t => (PX E ∧ BX t.heap) ∧ va_F A st t
/-- it answers v, the heap as it was, and P -/
def cRP (v : Option Value) (P : Prop) : Array Value → State → Outcome → State → Prop := fun _ st oc t => (oc = .returned v ∧ t.heap = st.heap) ∧ P
theorem cA_of {ws : va_W} {k : Nat} {q : Nat × va_E} (h : ws[k]? = some q) : cA ws q.1 := ⟨k, q.2, h⟩
theorem c_Dsame {A : Nat → Prop} {w w1 : va_W} (h : va_D A w) (ha : w1.map (fun q => q.1) = w.map (fun q => q.1)) : va_D A w1 := by
  have key : ∀ (k : Nat) (q : Nat × va_E), w1[k]? = some q → ∃ q2 : Nat × va_E, w[k]? = some q2 ∧ q2.1 = q.1 := by
    intro k q hq
    have h1 : (w1.map (fun q => q.1))[k]? = some q.1 := by rw [List.getElem?_map, hq]; rfl
    rw [ha, List.getElem?_map] at h1
    cases hw : w[k]? with
    | none => rw [hw] at h1; cases h1
    | some q2 => rw [hw] at h1; exact ⟨q2, rfl, Option.some.inj h1⟩
  refine ⟨fun i j p q hp hq e => ?_, fun k q hq => ?_⟩
  · obtain ⟨p2, hp2, ep⟩ := key i p hp
    obtain ⟨q2, hq2, eq⟩ := key j q hq
    exact h.1 i j p2 q2 hp2 hq2 (by rw [ep, eq]; exact e)
  · obtain ⟨q2, hq2, eq⟩ := key k q hq
    rw [← eq]
    exact h.2 k q2 hq2
/-- behind a call that wrote the cells wc in place: the other cells are as they were -/
theorem c_join {A0 : Nat → Prop} {D : va_G} {cl : List vw_C} {ws wc wr w1 ws' : va_W} {H H1 : Heap} (hP : va_P D cl ws H) (hD : va_D A0 ws) (isC isR perm : List Nat) (hC : isC.map (fun i => ws[i]?) = wc.map some) (hR : isR.map (fun i => ws[i]?) = wr.map some) (hn : va_nd (isR ++ isC) = true) (hdis : ∀ i ∈ isR, i ∉ isC)
    (hk : ∀ q : Nat, q < H.size → ¬ cA wc q → H1[q]? = H[q]?) (hP1 : va_P D cl w1 H1) (ha : w1.map (fun q => q.1) = wc.map (fun q => q.1)) (hp : perm.filterMap (fun i => (wr ++ w1)[i]?) = ws') (hp2 : perm.map (fun i => (wr ++ w1)[i]?) = ws'.map some) (hnp : va_nd perm = true) : va_P D cl ws' H1 ∧ va_D A0 ws' := by
  have at' : ∀ {is : List Nat} {w : va_W}, is.map (fun i => ws[i]?) = w.map some → ∀ (k : Nat) (q : Nat × va_E), w[k]? = some q → ∃ i, is[k]? = some i ∧ ws[i]? = some q := by
    intro is w hs k q hq
    have h1 : (is.map (fun i => ws[i]?))[k]? = some (some q) := by rw [hs, List.getElem?_map, hq]; rfl
    rw [List.getElem?_map] at h1
    cases hi : is[k]? with
    | none => rw [hi] at h1; cases h1
    | some i => rw [hi] at h1; exact ⟨i, rfl, Option.some.inj h1⟩
  have hPr : va_P D cl wr H1 := by
    intro k q hq
    obtain ⟨i, h1, h2⟩ := at' hR k q hq
    refine (hP i q h2).kept (hk q.1 (hP i q h2).lt ?_)
    rintro ⟨k2, e, h⟩
    obtain ⟨j, h3, h4⟩ := at' hC k2 (q.1, e) h
    have hij := hD.1 i j q (q.1, e) h2 h4 rfl
    subst hij
    exact hdis i (List.mem_of_getElem? h1) (List.mem_of_getElem? h3)
  have hD2 : va_D A0 (wr ++ w1) := c_Dsame (hD.sub (ws' := wr ++ wc) (isR ++ isC) hn (by rw [List.map_append, List.map_append, hC, hR])) (by rw [List.map_append, List.map_append, ha])
  exact ⟨(va_P.app hPr hP1).sub perm hp, hD2.sub perm hnp hp2⟩
section CB
variable {p : Program} {l : Launch} {e : Env} {R : Room} {s : State} {m : MethodId} {args : Array Value} {below : List Frame} {meth : Method} {c : Code} {H : Heap} {locs : List Loc} {cells slots : Nat} {Q : State → Prop} {pc : Nat} {ls : Array Slot} {rest st0 : List Value} {a : Array Value} {A0 A1 : Nat → Prop} {H0 : Heap} {mc ms : Nat} {free : Addr → Prop}
theorem c_callR {v : Option Value} (hr : va_Run p l e R s m args below meth c H locs cells slots 0 0 (F0 m pc ls st0) rest (cR v a) (fun _ => False)) (kk : W p l e R s m args below meth c H locs cells slots Q (F0 m (pc + 3) ls (v.toList ++ rest))) : W p l e R s m args below meth c H locs cells slots Q (F0 m pc ls st0) := by
  intro T hT X
  obtain ⟨v', st₀, t, T', L, h0, X', hL, e1, e2, ⟨hv, hh⟩, st⟩ := hr T hT X
  cases hv
  obtain ⟨t2, a1, b1⟩ := kk T' (by rw [e1, hh, h0]) (Stand.forget X' (fun q h => (hL q h).elim))
  exact ⟨t2, st t2 a1, b1⟩
theorem c_callB {v : Option Value} {B : Heap → Prop} (hr : va_Run p l e R s m args below meth c H locs cells slots mc ms (F0 m pc ls st0) rest (cB v B A1 a) free) (hS : va_S A0 H0 H locs) (hA : ∀ q, q < H.size → A1 q → A0 q) (hf : ∀ q, free q → A0 q)
    (kk : ∀ (H1 : Heap) (locs1 : List Loc), B H1 → H.size ≤ H1.size → (∀ q : Nat, q < H.size → ¬ A1 q → H1[q]? = H[q]?) → va_S A0 H0 H1 locs1 → W p l e R s m args below meth c H1 locs1 (cells + mc) (slots + ms) Q (F0 m (pc + 3) ls (v.toList ++ rest))) : W p l e R s m args below meth c H locs cells slots Q (F0 m pc ls st0) := by
  intro T hT X
  obtain ⟨v', st₀, t, T', L, h0, X', hL, e1, e2, ⟨⟨hv, hb⟩, hF⟩, st⟩ := hr T hT X
  cases hv
  obtain ⟨k1, k2, k3⟩ := vx_keep h0 e1 hS hA hf hL hF
  obtain ⟨t2, a1, b1⟩ := kk T'.heap (locs ++ L) (by rw [e1]; exact hb) k1 k2 k3 T' rfl X'
  exact ⟨t2, st t2 a1, b1⟩
/-- a call that returns, or throws -/
theorem c_callX {v : Option Value} {B BX : Heap → Prop} {PX : String → Prop} {AX : Nat → Prop} (hr : vx_Run p l e R s m args below meth c H locs cells slots mc ms (F0 m pc ls st0) rest (cB v B A1 a) (cX PX BX AX) free) (hS : va_S A0 H0 H locs) (hA : ∀ q, q < H.size → A1 q → A0 q) (hf : ∀ q, free q → A0 q) (hAX : ∀ q, q < H.size → AX q → A0 q)
    (kx : ∀ (E : String) (ce : Cell) (q9 : Addr) (H1 : Heap) (locs1 : List Loc), PX E → BX H1 → H.size ≤ H1.size → (∀ q : Nat, q < H.size → ¬ AX q → H1[q]? = H[q]?) → va_S A0 H0 H1 locs1 → H1[q9]? = some ce → ce.vm = .none → s.vm.findClass E = some ce.cls → vx_W p l e R s m args below meth c H1 locs1 (cells + mc) (slots + ms) Q (F0 m pc ls rest) q9)
    (kk : ∀ (H1 : Heap) (locs1 : List Loc), B H1 → H.size ≤ H1.size → (∀ q : Nat, q < H.size → ¬ A1 q → H1[q]? = H[q]?) → va_S A0 H0 H1 locs1 → W p l e R s m args below meth c H1 locs1 (cells + mc) (slots + ms) Q (F0 m (pc + 3) ls (v.toList ++ rest))) : W p l e R s m args below meth c H locs cells slots Q (F0 m pc ls st0) := by
  intro T hT X
  rcases hr T hT X with ⟨v', st₀, t, T', L, h0, X', hL, e1, e2, ⟨⟨hv, hb⟩, hF⟩, st⟩ | ⟨q, st₀, t, T', L, E, ce, h0, X', hL, e1, e2, ⟨⟨hE, hb⟩, hF⟩, hce, hcv, hcl, st⟩
  · cases hv
    obtain ⟨k1, k2, k3⟩ := vx_keep h0 e1 hS hA hf hL hF
    obtain ⟨t2, a1, b1⟩ := kk T'.heap (locs ++ L) (by rw [e1]; exact hb) k1 k2 k3 T' rfl X'
    exact ⟨t2, st t2 a1, b1⟩
  · obtain ⟨k1, k2, k3⟩ := vx_keep h0 e1 hS hAX hf hL hF
    obtain ⟨t2, a1, b1⟩ := kx E ce q T'.heap (locs ++ L) hE (by rw [e1]; exact hb) k1 k2 k3 (by rw [e1]; exact hce) hcv hcl T' rfl X'
    exact ⟨t2, st.trans a1, b1⟩
/-- a call of one that only tests: it returns, the heap as it is, or throws -/
theorem c_callT {v : Option Value} {P : Prop} {PX : String → Prop} {BX : Heap → Prop} (hr : vx_Run p l e R s m args below meth c H locs cells slots mc ms (F0 m pc ls st0) rest (cRP v P a) (cX PX BX (fun _ => False)) (fun _ => False)) (hS : va_S A0 H0 H locs)
    (kx : ∀ (E : String) (ce : Cell) (q9 : Addr) (H1 : Heap), PX E → H.size ≤ H1.size → (∀ q : Nat, q < H.size → H1[q]? = H[q]?) → va_S A0 H0 H1 locs → H1[q9]? = some ce → ce.vm = .none → s.vm.findClass E = some ce.cls → vx_W p l e R s m args below meth c H1 locs (cells + mc) (slots + ms) Q (F0 m pc ls rest) q9)
    (kk : P → W p l e R s m args below meth c H locs (cells + mc) (slots + ms) Q (F0 m (pc + 3) ls (v.toList ++ rest))) : W p l e R s m args below meth c H locs cells slots Q (F0 m pc ls st0) := by
  intro T hT X
  rcases hr T hT X with ⟨v', st₀, t, T', L, h0, X', hL, e1, e2, ⟨⟨hv, hh⟩, hP⟩, st⟩ | ⟨q, st₀, t, T', L, E, ce, h0, X', hL, e1, e2, ⟨⟨hE, hb⟩, hF⟩, hce, hcv, hcl, st⟩
  · cases hv
    obtain ⟨t2, a1, b1⟩ := kk hP T' (by rw [e1, hh, h0]) (Stand.forget X' (fun q h => (hL q h).elim))
    exact ⟨t2, st t2 a1, b1⟩
  · obtain ⟨k1, k2, k3⟩ := vx_keep (A1 := fun _ => False) (free := fun _ => False) h0 e1 hS (fun q _ h => False.elim h) (fun q h => False.elim h) hL hF
    obtain ⟨t2, a1, b1⟩ := kx E ce q T'.heap hE k1 (fun q h => k2 q h (fun z => z)) ⟨k3.1, k3.2.1, hS.2.2⟩ (by rw [e1]; exact hce) hcv hcl T' rfl (Stand.forget X' (fun q h => (hL q h).elim))
    exact ⟨t2, st.trans a1, b1⟩
theorem c_FX {A : Nat → Prop} {s t : State} {H : Heap} {locs : List Loc} (hS : va_S A s.heap H locs) (hz : H.size ≤ t.heap.size) (hq : ∀ q : Nat, q < H.size → t.heap[q]? = H[q]?) : va_F A s t :=
  ⟨Nat.le_trans hS.1 hz, fun q h1 h2 => by rw [hq q (Nat.lt_of_lt_of_le h1 hS.1)]; exact hS.2.1 q h1 h2⟩
theorem c_PX {D : va_G} {cl : List vw_C} {ws : va_W} {H H1 : Heap} (hP : va_P D cl ws H) (hq : ∀ q : Nat, q < H.size → H1[q]? = H[q]?) : va_P D cl ws H1 := hP.kept (fun k q hk => hq q.1 (hP k q hk).lt)
theorem c_top {x y : Int32} (h : x = y) (k : W p l e R s m args below meth c H locs cells slots Q (F0 m pc ls (.int y :: rest))) : W p l e R s m args below meth c H locs cells slots Q (F0 m pc ls (.int x :: rest)) := h ▸ k
theorem c_topl {x y : Int64} (h : x = y) (k : W p l e R s m args below meth c H locs cells slots Q (F0 m pc ls (.long y :: rest))) : W p l e R s m args below meth c H locs cells slots Q (F0 m pc ls (.long x :: rest)) := h ▸ k
end CB
/-! the surroundings: what lies ahead of the system's cells and is never written -/
def kStrs : List (Nat × String) := [(111, "metres must be 1 to 30"), (155, "it would not be safe then"), (157, "a load hangs on the boom"), (161, "side must be 0 to 3"), (164, "direction must be 0 to 7"), (166, "load must be 0 to 60"), (168, "reach must be 3 to 30"), (36, "plates must be 0 to 12"), (59, "out must be 0 to 6"), (75, "limit must be 0 to 60"), (83, "load must be 1 to 60"), (93, "no load hangs on the boom"), (96, "steps must be 1 to 8")]
abbrev xIAE : String := "java/lang/IllegalArgumentException"
abbrev xISE : String := "java/lang/IllegalStateException"
abbrev xIOB : String := "java/lang/IndexOutOfBoundsException"
def kNw (U : State) : Prop := va_Nw (.methodLinkNest RX2 21 yX0_init "CraneReach") U ∧ va_Nw (.methodLinkNest RX0 34 yX2_turned "CraneReach") U ∧ va_Nw (.methodLinkNest RX0 43 yX2_isReach "CraneReach") U
def kCa (U : State) : Prop := va_Nw (.castable xIAE xIAE) U ∧ va_Nw (.castable xISE xISE) U ∧ va_Nw (.castable xIOB xIOB) U
def kDe (U : State) : Prop := va_Nw (.declares (Bundle.initS "java/lang/RuntimeException")) U ∧ va_Nw (.declares (Bundle.initS "java/lang/Exception")) U ∧ va_Nw (.declares (Bundle.initS Bundle.tN)) U
def kNc (_ : State) : Prop := True
def kE (L0 : Nat) (U : State) (H : Heap) : Prop :=
  L0 ≤ H.size ∧ vx_Zq Bundle.tN "UNASSIGNED_STACK" Bundle.steD (fun q => L0 ≤ q) U H ∧ vx_Zq Bundle.tN "SUPPRESSED_SENTINEL" Bundle.listD (fun q => L0 ≤ q) U H ∧
  va_Nw (.castable "[I" "java/lang/Cloneable") U ∧
  (∀ z ∈ kStrs, ∃ a, vk_R RX2 z.1 z.2 a U) ∧ kNw U ∧ kCa U ∧ kDe U ∧ kNc U
theorem kE_kept {L0 : Nat} {U : State} {H H1 : Heap} (h : kE L0 U H) (hz : H.size ≤ H1.size) (hq : ∀ q : Nat, q < L0 → H1[q]? = H[q]?) : kE L0 U H1 := by
  obtain ⟨h0, h1, h2, h3, h5⟩ := h
  have hq' : ∀ a : Nat, a < H.size → ¬ (fun q => L0 ≤ q) a → H1[a]? = H[a]? := fun a _ h => hq a (Nat.not_le.mp h)
  exact ⟨Nat.le_trans h0 hz, h1.kept hq', h2.kept hq', h3, h5⟩
/-- at any heap of the method that only wrote its own cells -/
theorem kE_at {L0 : Nat} {s : State} {H : Heap} {locs : List Loc} {A : Nat → Prop} (h : kE L0 s s.heap) (hAL : ∀ q, A q → L0 ≤ q) (hS : va_S A s.heap H locs) : kE L0 s H :=
  kE_kept h hS.1 (fun q hq => hS.2.1 q (Nat.lt_of_lt_of_le hq h.1) (fun z => absurd (hAL q z) (Nat.not_le.mpr hq)))
theorem kE_moved {L0 : Nat} {s U : State} {H : Heap} (h : kE L0 s H) (hW : s.WarmedH U.vm) : kE L0 U H := by
  obtain ⟨h0, h1, h2, h3, h5, ⟨h6, h7, h8⟩, ⟨h9, h10, h11⟩, ⟨d1, d2, d3⟩, -⟩ := h
  have hvm := hW.alike
  exact ⟨h0, h1.moved hvm, h2.moved hvm, h3.warmC hW, fun z hz => by obtain ⟨a, ha⟩ := h5 z hz; exact ⟨a, ha.warm hW⟩, ⟨h6.warmM hW, h7.warmM hW, h8.warmM hW⟩, ⟨h9.warmC hW, h10.warmC hW, h11.warmC hW⟩, ⟨d1.warmD hW, d2.warmD hW, d3.warmD hW⟩, trivial⟩
theorem kE_same {L0 : Nat} {s U : State} {H : Heap} (h : kE L0 s H) (hv : U.vm = s.vm) : kE L0 U H := kE_moved h (by rw [hv]; exact State.WarmedH.refl s)
/-- what every method finds: its arguments, its cells, the tables, apart and behind L0, the surroundings -/
def cP (L0 : Nat) (D : va_G) (tys : List (ClassId × FieldType)) (ws : va_W) (av : List Value) : Array Value → State → Prop :=
  va_Pc av (fun U => va_P D vwCl ws U.heap ∧ va_K D vwCl tys U ∧ va_D (fun q : Nat => L0 ≤ q) ws ∧ kE L0 U U.heap)
theorem cP_blind {L0 : Nat} {D : va_G} {tys : List (ClassId × FieldType)} {ws : va_W} {av : List Value} : FrameBlind (cP L0 D tys ws av) := by
  intro a U g mk h
  obtain ⟨h1, h2, h3, h4, h5⟩ := h
  exact ⟨h1, h2, va_K.moved (u := U) (U := U.calling g mk a) (Vm.Alike.refl U.vm) h3, h4, kE_same (s := U) h5 rfl⟩
theorem cP_of {L0 : Nat} {D : va_G} {tys : List (ClassId × FieldType)} {ws : va_W} {av : List Value} {s : State} {H : Heap} (hP : va_P D vwCl ws H) (hK : va_K D vwCl tys s) (hD : va_D (fun q : Nat => L0 ≤ q) ws) (hE : kE L0 s H) : ∀ U : State, U.heap = H → s.WarmedH U.vm → cP L0 D tys ws av av.toArray U := by
  intro U hU hW
  refine ⟨rfl, by rw [hU]; exact hP, va_K.moved hW.alike hK, hD, ?_⟩
  rw [hU]
  exact kE_moved hE hW
theorem kE_str {L0 : Nat} {s : State} {H : Heap} (h : kE L0 s H) (z : Nat × String) (hz : z ∈ kStrs) : ∃ a, vk_R RX2 z.1 z.2 a s := h.2.2.2.2.1 z hz
abbrev kSup : List String := ["java/lang/RuntimeException", "java/lang/Exception"]
def kOther (X : String) : List Cond := [.castable X X, .declares (Bundle.initS "java/lang/RuntimeException"), .declares (Bundle.initS "java/lang/Exception"), .declares (Bundle.initS Bundle.tN)]
theorem kE_other {L0 : Nat} {s : State} {H : Heap} (h : kE L0 s H) (X : String) (hX : X = xIAE ∨ X = xISE ∨ X = xIOB) {args : Array Value} : ∀ w ∈ kOther X, w.before args s = true := by
  obtain ⟨-, -, -, -, -, -, ⟨h9, h10, h11⟩, ⟨d1, d2, d3⟩, -⟩ := h
  have hc : va_Nw (.castable X X) s := by rcases hX with rfl | rfl | rfl <;> assumption
  exact vx_c (hc.use rfl) (vx_c (d1.use rfl) (vx_c (d2.use rfl) (vx_c (d3.use rfl) vx_n)))
section CT
variable {p : Program} {l : Launch} {e : Env} {R : Room} {s : State} {m : MethodId} {args : Array Value} {below : List Frame} {meth : Method} {c : Code} {H : Heap} {locs : List Loc} {cells slots : Nat} {pc : Nat} {ls : Array Slot} {rest : List Value} {A : Nat → Prop} {mc ms : Nat} {free : Addr → Prop} {Qc : Array Value → State → Outcome → State → Prop} {PX : String → Prop} {BX : Heap → Prop} {A1 : Nat → Prop} {L0 : Nat}
/-- 'throw new E("text")' of the class CraneReach -/
theorem c_throw {cc : ByteArray} (hexec : p.tables.exec = Jvm.exec) (hb : c.code = cc) (hl : l.stackTraces = false) {cls text : String} {ik is ic nL : Nat} (hown : s.vm.findClass RX2 = some m.cls) (hc : cls = xIAE ∨ cls = xISE ∨ cls = xIOB)
    (hk : (Cond.classLink RX2 ik cls).before args s = true) (hini : (Cond.initialized cls).before args s = true) (hE0 : kE L0 s s.heap) (hAL : ∀ q, A q → L0 ≤ q) (hstr : (is, text) ∈ kStrs)
    (hat : ∀ w ∈ (vx_atS RX2 ic cls kSup).filter goodWord, w.before args s = true) (hot : ∀ w ∈ (vx_atS RX2 ic cls kSup).filter (fun w => !goodWord w), w ∈ kOther cls)
    (hgood : ∀ w ∈ Cond.classLink RX2 ik cls :: Cond.initialized cls :: vx_atS RX2 ic cls kSup, vx_ot w = true)
    (hS : va_S A s.heap H locs) (hls : ls.size = nL) (hml : c.maxLocals = nL)
    (d0 : decode cc pc = .ok (.new ik, 3)) (d3 : decode cc (pc + 3) = .ok (.dup, 1)) (d4 : decode cc (pc + 4) = .ok (.ldc is, 2)) (d6 : decode cc (pc + 6) = .ok (.invokespecial ic, 3)) (d9 : decode cc (pc + 9) = .ok (.athrow, 1))
    (hxt : ∀ x ∈ c.exceptionTable.toList, False) (hRf : 5 < R.frames) (hRl : (rest.map fun v => v.category).sum + 82 ≤ R.locals) (hRc : cells + 1 ≤ R.cells) (hRs : slots + 6 ≤ R.slots) (hlocks : meth.locks = false)
    (hPX : PX cls) (hBX : ∀ H1 : Heap, H.size ≤ H1.size → (∀ q : Nat, q < H.size → H1[q]? = H[q]?) → BX H1) (hf : ∀ q, A q → free q) (hA1 : ∀ q, A q → A1 q) (hmc : cells + 1 ≤ mc) (hms : slots + 6 ≤ ms) :
    W p l e R s m args below meth c H locs cells slots (vx_MQ below Qc (cX PX BX A1) args s mc ms free) (F0 m pc ls rest) := by
  obtain ⟨sa, hsa⟩ := kE_str hE0 (is, text) hstr
  have hfit : Bundle.fit cls = true := by rcases hc with rfl | rfl | rfl <;> decide +kernel
  have hU := hE0.2.1.narrow (B := A) hAL
  have hN := hE0.2.2.1.narrow (B := A) hAL
  exact vx_throwS (names := kSup) hexec hb hl hown hfit (by decide +kernel) hk hini hsa (vx_hat hat hot (kE_other hE0 cls hc)) hgood hU hN hS (hls.trans hml.symm) d0 d3 d4 d6 d9 (fun x hx => (hxt x hx).elim) hRf hRl hRc hRs hlocks
    (fun t hvm hz hq => ⟨⟨hPX, hBX t.heap hz hq⟩, Nat.le_trans hS.1 hz, fun q h1 h2 => by rw [hq q (Nat.lt_of_lt_of_le h1 hS.1)]; exact hS.2.1 q h1 (fun z => h2 (hA1 q z))⟩) (fun z hz => hf _ (hS.2.2 z hz)) hmc hms
end CT
/-- the same, and the heap's size: for those that make cells -/
def cPz (L0 : Nat) (D : va_G) (tys : List (ClassId × FieldType)) (ws : va_W) (av : List Value) (sz : Nat) : Array Value → State → Prop := fun v U => cP L0 D tys ws av v U ∧ U.heap.size = sz
theorem cPz_blind {L0 : Nat} {D : va_G} {tys : List (ClassId × FieldType)} {ws : va_W} {av : List Value} {sz : Nat} : FrameBlind (cPz L0 D tys ws av sz) := fun a U g mk h => ⟨cP_blind a U g mk h.1, h.2⟩
theorem cPz_of {L0 : Nat} {D : va_G} {tys : List (ClassId × FieldType)} {ws : va_W} {av : List Value} {s : State} {H : Heap} (hP : va_P D vwCl ws H) (hK : va_K D vwCl tys s) (hD : va_D (fun q : Nat => L0 ≤ q) ws) (hE : kE L0 s H) : ∀ U : State, U.heap = H → s.WarmedH U.vm → cPz L0 D tys ws av H.size av.toArray U := fun U hU hW => ⟨cP_of hP hK hD hE U hU hW, by rw [hU]⟩
