section
-- ===== PART A: goes FIRST, ahead of the names: the tables' words, and 'selects' of the private methods out of them =====
/-- a private method of a class that the tables say can be made, by its rows of tables_1 -/
def lw_okq (q : MethodName × Nat) : Prop := (q.1.cls ≠ "java/lang/invoke/MethodHandle" ∧ q.1.cls ≠ "java/lang/invoke/VarHandle") ∧ Cond.instantiable q.1.cls q.2 ∈ tables_1 ∧ Cond.privateMethod q.1 ∈ tables_1 ∧ Cond.instanceMethod q.1 ∈ tables_1
theorem lw_p0 : lw_okq (⟨"java/lang/Throwable", "fillInStackTrace", "(I)Ljava/lang/Throwable;"⟩, 6) := ⟨⟨by decide +kernel, by decide +kernel⟩, List.mem_of_getElem? (i := 204) (by decide +kernel), List.mem_of_getElem? (i := 202) (by decide +kernel), List.mem_of_getElem? (i := 203) (by decide +kernel)⟩
theorem lw_p1 : lw_okq (⟨"CraneReach", "requireSafe", "(LCraneReach$Rig;I)V"⟩, 9) := ⟨⟨by decide +kernel, by decide +kernel⟩, List.mem_of_getElem? (i := 13) (by decide +kernel), List.mem_of_getElem? (i := 263) (by decide +kernel), List.mem_of_getElem? (i := 264) (by decide +kernel)⟩
theorem lw_p2 : lw_okq (⟨"CraneReach", "requireNoLoad", "()V"⟩, 9) := ⟨⟨by decide +kernel, by decide +kernel⟩, List.mem_of_getElem? (i := 13) (by decide +kernel), List.mem_of_getElem? (i := 311) (by decide +kernel), List.mem_of_getElem? (i := 312) (by decide +kernel)⟩
theorem lw_p3 : lw_okq (⟨"CraneReach", "countMoves", "(I)V"⟩, 9) := ⟨⟨by decide +kernel, by decide +kernel⟩, List.mem_of_getElem? (i := 13) (by decide +kernel), List.mem_of_getElem? (i := 353) (by decide +kernel), List.mem_of_getElem? (i := 354) (by decide +kernel)⟩
theorem lw_p4 : lw_okq (⟨"CraneReach$Plan", "visit", "(LCraneReach$Rig;IIII)V"⟩, 3) := ⟨⟨by decide +kernel, by decide +kernel⟩, List.mem_of_getElem? (i := 39) (by decide +kernel), List.mem_of_getElem? (i := 426) (by decide +kernel), List.mem_of_getElem? (i := 427) (by decide +kernel)⟩
theorem lw_p5 : lw_okq (⟨"CraneReach$Plan", "visitBeside", "(LCraneReach$Rig;II)V"⟩, 3) := ⟨⟨by decide +kernel, by decide +kernel⟩, List.mem_of_getElem? (i := 39) (by decide +kernel), List.mem_of_getElem? (i := 435) (by decide +kernel), List.mem_of_getElem? (i := 436) (by decide +kernel)⟩
theorem lw_p6 : lw_okq (⟨"CraneReachModel", "no", "(I)I"⟩, 13) := ⟨⟨by decide +kernel, by decide +kernel⟩, List.mem_of_getElem? (i := 458) (by decide +kernel), List.mem_of_getElem? (i := 515) (by decide +kernel), List.mem_of_getElem? (i := 516) (by decide +kernel)⟩
theorem lw_p7 : lw_okq (⟨"CraneReachModel", "isSafe", "()Z"⟩, 13) := ⟨⟨by decide +kernel, by decide +kernel⟩, List.mem_of_getElem? (i := 458) (by decide +kernel), List.mem_of_getElem? (i := 519) (by decide +kernel), List.mem_of_getElem? (i := 520) (by decide +kernel)⟩
theorem lw_p8 : lw_okq (⟨"CraneReachModel", "isSafe", "(III)Z"⟩, 13) := ⟨⟨by decide +kernel, by decide +kernel⟩, List.mem_of_getElem? (i := 458) (by decide +kernel), List.mem_of_getElem? (i := 523) (by decide +kernel), List.mem_of_getElem? (i := 524) (by decide +kernel)⟩
theorem lw_p9 : lw_okq (⟨"CraneReachModel", "strain", "(IIII)I"⟩, 13) := ⟨⟨by decide +kernel, by decide +kernel⟩, List.mem_of_getElem? (i := 458) (by decide +kernel), List.mem_of_getElem? (i := 527) (by decide +kernel), List.mem_of_getElem? (i := 528) (by decide +kernel)⟩
theorem lw_p10 : lw_okq (⟨"CraneReachModel", "moved", "()V"⟩, 13) := ⟨⟨by decide +kernel, by decide +kernel⟩, List.mem_of_getElem? (i := 458) (by decide +kernel), List.mem_of_getElem? (i := 568) (by decide +kernel), List.mem_of_getElem? (i := 569) (by decide +kernel)⟩
theorem lw_p11 : lw_okq (⟨"CraneReachModel", "ok", "(I)I"⟩, 13) := ⟨⟨by decide +kernel, by decide +kernel⟩, List.mem_of_getElem? (i := 458) (by decide +kernel), List.mem_of_getElem? (i := 580) (by decide +kernel), List.mem_of_getElem? (i := 581) (by decide +kernel)⟩
theorem lw_p12 : lw_okq (⟨"CraneReachModel", "strainNow", "(I)I"⟩, 13) := ⟨⟨by decide +kernel, by decide +kernel⟩, List.mem_of_getElem? (i := 458) (by decide +kernel), List.mem_of_getElem? (i := 608) (by decide +kernel), List.mem_of_getElem? (i := 609) (by decide +kernel)⟩
theorem lw_p13 : lw_okq (⟨"CraneReachModel", "weakest", "()I"⟩, 13) := ⟨⟨by decide +kernel, by decide +kernel⟩, List.mem_of_getElem? (i := 458) (by decide +kernel), List.mem_of_getElem? (i := 616) (by decide +kernel), List.mem_of_getElem? (i := 617) (by decide +kernel)⟩
theorem lw_p14 : lw_okq (⟨"CraneReachModel", "isNot", "(I)Z"⟩, 13) := ⟨⟨by decide +kernel, by decide +kernel⟩, List.mem_of_getElem? (i := 458) (by decide +kernel), List.mem_of_getElem? (i := 639) (by decide +kernel), List.mem_of_getElem? (i := 640) (by decide +kernel)⟩
theorem lw_p15 : lw_okq (⟨"CraneReachModel", "greatest", "()I"⟩, 13) := ⟨⟨by decide +kernel, by decide +kernel⟩, List.mem_of_getElem? (i := 458) (by decide +kernel), List.mem_of_getElem? (i := 647) (by decide +kernel), List.mem_of_getElem? (i := 648) (by decide +kernel)⟩
def lw_privs_1 : List (MethodName × Nat) := [(⟨"java/lang/Throwable", "fillInStackTrace", "(I)Ljava/lang/Throwable;"⟩, 6), (⟨"CraneReach", "requireSafe", "(LCraneReach$Rig;I)V"⟩, 9), (⟨"CraneReach", "requireNoLoad", "()V"⟩, 9), (⟨"CraneReach", "countMoves", "(I)V"⟩, 9), (⟨"CraneReach$Plan", "visit", "(LCraneReach$Rig;IIII)V"⟩, 3), (⟨"CraneReach$Plan", "visitBeside", "(LCraneReach$Rig;II)V"⟩, 3), (⟨"CraneReachModel", "no", "(I)I"⟩, 13), (⟨"CraneReachModel", "isSafe", "()Z"⟩, 13), (⟨"CraneReachModel", "isSafe", "(III)Z"⟩, 13), (⟨"CraneReachModel", "strain", "(IIII)I"⟩, 13), (⟨"CraneReachModel", "moved", "()V"⟩, 13), (⟨"CraneReachModel", "ok", "(I)I"⟩, 13), (⟨"CraneReachModel", "strainNow", "(I)I"⟩, 13), (⟨"CraneReachModel", "weakest", "()I"⟩, 13), (⟨"CraneReachModel", "isNot", "(I)Z"⟩, 13), (⟨"CraneReachModel", "greatest", "()I"⟩, 13)]
theorem lw_r1 : ∀ q ∈ lw_privs_1, lw_okq q := List.forall_mem_cons.mpr ⟨lw_p0, List.forall_mem_cons.mpr ⟨lw_p1, List.forall_mem_cons.mpr ⟨lw_p2, List.forall_mem_cons.mpr ⟨lw_p3, List.forall_mem_cons.mpr ⟨lw_p4, List.forall_mem_cons.mpr ⟨lw_p5, List.forall_mem_cons.mpr ⟨lw_p6, List.forall_mem_cons.mpr ⟨lw_p7, List.forall_mem_cons.mpr ⟨lw_p8, List.forall_mem_cons.mpr ⟨lw_p9, List.forall_mem_cons.mpr ⟨lw_p10, List.forall_mem_cons.mpr ⟨lw_p11, List.forall_mem_cons.mpr ⟨lw_p12, List.forall_mem_cons.mpr ⟨lw_p13, List.forall_mem_cons.mpr ⟨lw_p14, List.forall_mem_cons.mpr ⟨lw_p15, fun _ h => absurd h List.not_mem_nil⟩⟩⟩⟩⟩⟩⟩⟩⟩⟩⟩⟩⟩⟩⟩⟩
theorem lw_p16 : lw_okq (⟨"CraneReachModel", "safeAround", "(II)I"⟩, 13) := ⟨⟨by decide +kernel, by decide +kernel⟩, List.mem_of_getElem? (i := 458) (by decide +kernel), List.mem_of_getElem? (i := 659) (by decide +kernel), List.mem_of_getElem? (i := 660) (by decide +kernel)⟩
theorem lw_p17 : lw_okq (⟨"CraneReachModel", "fewestPlates", "(III)I"⟩, 13) := ⟨⟨by decide +kernel, by decide +kernel⟩, List.mem_of_getElem? (i := 458) (by decide +kernel), List.mem_of_getElem? (i := 667) (by decide +kernel), List.mem_of_getElem? (i := 668) (by decide +kernel)⟩
theorem lw_p18 : lw_okq (⟨"CraneReachModel", "goOut", "(I)V"⟩, 13) := ⟨⟨by decide +kernel, by decide +kernel⟩, List.mem_of_getElem? (i := 458) (by decide +kernel), List.mem_of_getElem? (i := 675) (by decide +kernel), List.mem_of_getElem? (i := 676) (by decide +kernel)⟩
theorem lw_p19 : lw_okq (⟨"CraneReachModel", "comeTo", "(IIII)V"⟩, 13) := ⟨⟨by decide +kernel, by decide +kernel⟩, List.mem_of_getElem? (i := 458) (by decide +kernel), List.mem_of_getElem? (i := 679) (by decide +kernel), List.mem_of_getElem? (i := 680) (by decide +kernel)⟩
theorem lw_p20 : lw_okq (⟨"CraneReachModel", "within", "(I)I"⟩, 13) := ⟨⟨by decide +kernel, by decide +kernel⟩, List.mem_of_getElem? (i := 458) (by decide +kernel), List.mem_of_getElem? (i := 687) (by decide +kernel), List.mem_of_getElem? (i := 688) (by decide +kernel)⟩
def lw_privs_2 : List (MethodName × Nat) := [(⟨"CraneReachModel", "safeAround", "(II)I"⟩, 13), (⟨"CraneReachModel", "fewestPlates", "(III)I"⟩, 13), (⟨"CraneReachModel", "goOut", "(I)V"⟩, 13), (⟨"CraneReachModel", "comeTo", "(IIII)V"⟩, 13), (⟨"CraneReachModel", "within", "(I)I"⟩, 13)]
theorem lw_r2 : ∀ q ∈ lw_privs_2, lw_okq q := List.forall_mem_cons.mpr ⟨lw_p16, List.forall_mem_cons.mpr ⟨lw_p17, List.forall_mem_cons.mpr ⟨lw_p18, List.forall_mem_cons.mpr ⟨lw_p19, List.forall_mem_cons.mpr ⟨lw_p20, fun _ h => absurd h List.not_mem_nil⟩⟩⟩⟩⟩
def lw_privs : List (MethodName × Nat) := lw_privs_1 ++ (lw_privs_2)
def lw_tbl : List Cond := k2_sels lw_privs ++ tables_1
theorem lw_privs_ok : ∀ q ∈ lw_privs, lw_okq q := by
  show ∀ q ∈ lw_privs_1 ++ (lw_privs_2), lw_okq q
  exact List.forall_mem_append.mpr ⟨lw_r1, lw_r2⟩
/-- the streams that the claim lets the run draw from -/
abbrev lw_cs : List Choice := [Jvm.Choice.named "NaN.bits"]
theorem lw_bits : nanBits ∈ lw_cs := by first | decide | exact List.mem_cons_self | simp [lw_cs, nanBits]
end
section
/-! ===== BEGIN words of one list among another's, by their places ===== -/
theorem goodIn_r {big : List Cond} (ws : List Cond) (ps : List Nat) (hp : ws = ps.filterMap (fun i => big[i]?)) (h : ws.all goodWord = true) : GoodIn big ws := by
  intro w hw
  have h1 := List.all_eq_true.mp h w hw
  rw [hp] at hw
  obtain ⟨i, -, hi⟩ := List.mem_filterMap.mp hw
  have hm : w ∈ big := by first | exact List.mem_of_getElem? hi | exact List.getElem?_mem hi
  exact ⟨hm, good_of_word h1⟩
theorem goodIn_app {big a b : List Cond} (ha : GoodIn big a) (hb : GoodIn big b) : GoodIn big (a ++ b) := fun w h => (List.mem_append.mp h).elim (ha w) (hb w)
theorem goodIn_ca {big a b : List Cond} {c : Cond} (ha : GoodIn big (c :: a)) (hb : GoodIn big b) : GoodIn big (c :: (a ++ b)) := fun w h => (List.mem_cons.mp h).elim (fun e => ha w (List.mem_cons.mpr (Or.inl e))) (fun h => (List.mem_append.mp h).elim (fun h => ha w (List.mem_cons.mpr (Or.inr h))) (hb w))
theorem goodIn_sub {big ws : List Cond} (hm : ∀ w ∈ ws, w ∈ big) (h : ws.all goodWord = true) : GoodIn big ws := fun w hw => ⟨hm w hw, good_of_word (List.all_eq_true.mp h w hw)⟩
/-! ===== END ===== -/

/-! ===== BEGIN exceptions that leave a method, and their catching by the caller (launches without stack traces) ===== -/
section VXA
/-! The laws vx_back, vx_callV, vx_callS, vx_callSW, vx_throw0, vx_throwS follow proofs of the library, with one case more: JvmDerived/Free/Laws.lean (Back.of_free), Shelf42/LK1.lean (callV, callS), Shelf/KitTraced.lean (throwNew0V, throwNewS). -/
/-- where a method has thrown q: the class by its name, the cell, what was written, the world -/
def vx_T (XC : String → State → State → Prop) (st : State) (q : Addr) (t : State) (mc ms : Nat) (free : Addr → Prop) : Prop :=
  ∃ (E : String) (ce : Cell) (L : List Loc), XC E st t ∧ t.heap[q]? = some ce ∧ ce.vm = .none ∧ st.vm.findClass E = some ce.cls ∧ st.WarmedH t.vm ∧ st.sameButNew ({ t with vm := st.vm } : State) L mc ms ∧ ∀ z ∈ L, free z.base
def vx_Q (Qc : Array Value → State → Outcome → State → Prop) (XC : String → State → State → Prop) (mc ms : Nat) (free : Addr → Prop) : Array Value → State → Outcome → State → Prop := fun a st o t =>
  (Qc a st o t ∧ ∃ L, FrameEnd st o t L mc ms ∧ ∀ q ∈ L, free q.base) ∨ ∃ q, o = .threw q ∧ vx_T XC st q t mc ms free
/-- a callee that returns or throws -/
def vx_Met (l : Launch) (y : MethodName) (ws : List Cond) (rm : Room) (Pc : Array Value → State → Prop) (Qc : Array Value → State → Outcome → State → Prop) (XC : String → State → State → Prop) (mc ms : Nat) (free : Addr → Prop) : Prop :=
  MetFree l y (headSpec ws rm) Pc (fun _ _ _ _ _ => True) (vx_Q Qc XC mc ms free)
def vx_Post (XC : String → State → State → Prop) (mc ms : Nat) (free : Addr → Prop) : Pt → Array Value → Addr → Pt → Prop := fun A a q B =>
  ∃ (g : JFrame) (mk : MethodId) (t : State) (L : List Loc) (E : String) (ce : Cell), B.U.heap = t.heap ∧ B.U.vm = t.vm ∧ XC E (A.U.calling g mk a) t ∧ t.heap[q]? = some ce ∧ ce.vm = .none ∧ A.U.vm.findClass E = some ce.cls ∧ B.locs = A.locs ++ L ∧ (∀ z ∈ L, free z.base) ∧ B.cells = A.cells + mc ∧ B.slots = A.slots + ms
def vx_Back (l : Launch) (R : Room) (p : Program) (e : Env) (below : List Frame) (s : State) (sargs : Array Value) (y : MethodName) (len W9 : Nat)
    (Pre : Pt → Array Value → Prop) (Post : Pt → Array Value → Option Value → Pt → Prop) (PostX : Pt → Array Value → Addr → Pt → Prop) : Prop :=
  ∀ (m : MethodId) (meth : Method) (c : Code) (A : Pt) (g : JFrame) (ig : Instr) (mk : MethodId) (a : Array Value),
    Stand p l e R s m sargs below meth c A.U A.locs A.cells A.slots → g.method = m → g.locals.size = c.maxLocals → decode c.code g.pc = .ok (ig, len) →
    2 * g.monitorRoom + (g.stack.map fun v => v.category).sum ≤ W9 → A.U.methodNamed? y = some mk → Pre A a →
    (∃ (v : Option Value) (B : Pt), Stand p l e R s m sargs below meth c B.U B.locs B.cells B.slots ∧ Post A a v B ∧
      Steps p.tables e below (doInvoke e (A.U.setTop g) [] mk a).1 (B.U.setTop { g with pc := g.pc + len, stack := v.toList ++ g.stack })) ∨
    (∃ (q : Addr) (B : Pt), Stand p l e R s m sargs below meth c B.U B.locs B.cells B.slots ∧ PostX A a q B ∧
      Steps p.tables e below (doInvoke e (A.U.setTop g) [] mk a).1 ((B.U.setTop g).pushFrame (.throwing q)))
section Payer
variable {l : Launch} {R : Room} {p : Program} {e : Env} {below : List Frame} {s : State} {sargs : Array Value} {y : MethodName} {len W9 : Nat}
theorem vx_back {ws : List Cond} {rm : Room} {Pc : Array Value → State → Prop} {Qc : Array Value → State → Outcome → State → Prop} {XC : String → State → State → Prop} {mc ms : Nat} {free : Addr → Prop} {bytes : ByteArray} {maxL : Nat} {ret : Option FieldType}
    (hM : vx_Met l y ws rm Pc Qc XC mc ms free) (hblind : FrameBlind Pc) (hrc : rm.cells = mc) (hrs : rm.slots = ms)
    (hframes : rm.frames + 1 ≤ R.frames) (hlocals : W9 + (maxL + 11) + rm.locals ≤ R.locals)
    (hws : ∀ w ∈ ws, ∀ a' U, s.WarmedH U.vm → w.before a' U = true) (hcode : Cond.code y bytes maxL ret ∈ ws) (hinit : ∀ a' U, s.WarmedH U.vm → (Cond.initialized y.cls).before a' U = true) :
    vx_Back l R p e below s sargs y len W9 (PreOf R mc ms Pc) (PostOf Qc mc ms free) (vx_Post XC mc ms free) := by
  intro m meth c A g ig mk a X hg hsize hdg hW hn hp
  have h1 : (headSpec ws rm).pre.before a A.U = true := atoms_intro fun w hw => hws w hw _ _ X.warmed
  have h2 : (Cond.code y bytes maxL ret).before a A.U = true := hws _ hcode _ _ X.warmed
  have h3 : (Cond.initialized y.cls).before a A.U = true := hinit _ _ X.warmed
  have h4 : A.cells + (headSpec ws rm).room.cells ≤ R.cells := by rw [show (headSpec ws rm).room.cells = mc from hrc]; exact hp.1
  have h5 : A.slots + (headSpec ws rm).room.slots ≤ R.slots := by rw [show (headSpec ws rm).room.slots = ms from hrs]; exact hp.2.1
  have hPc : Pc a (A.U.calling g mk a) := hblind _ _ _ _ hp.2.2
  obtain ⟨U, Ls, c0, s0⟩ := A
  dsimp only [Pt.U, Pt.locs, Pt.cells, Pt.slots] at h1 h2 h3 h4 h5 X hn hPc ⊢
  obtain ⟨methY, cY, hmY, hcY, -, hlY, -, -, -, -⟩ := Cond.code_spec hn h2
  obtain ⟨kY, hkY, -⟩ := className_of_methodNamed hn
  have hinitY : kY.init = .initialized := Cond.initialized_spec (findClass_of_methodNamed hn) hkY h3
  have h : At U g.method c below := by rw [hg]; exact X.here
  have hlocals9 : W9 + (maxL + 11) + (headSpec ws rm).room.locals ≤ R.locals := hlocals
  have happ : (headSpec ws rm).appliesLoose y e.platform (U.calling g mk a) = true :=
    Spec.appliesLoose_calling (g := g) h hdg hn hkY hinitY
      (X.room_calling (g := g) (R' := (headSpec ws rm).room) hsize hmY hcY hframes (by rw [hlY]; omega) h4 h5) h1
  obtain ⟨mid, hmid⟩ := h.above
  have hfr : (U.setTop g).frames = (.java g :: mid) ++ below := by rw [State.frames_setTop' g h.top, hmid]; rfl
  obtain ⟨o, s₂, hsteps, -, hend, hq⟩ := Steps.callFree hM p X.admits X.cas X.clock (acts := []) hfr happ hPc trivial
  have hq' : vx_Q Qc XC mc ms free a (U.calling g mk a) o s₂ := hq
  rw [State.frames_setTop' g h.top] at hend
  obtain ⟨g₀, hg0⟩ := Option.isSome_iff_exists.mp h.top
  obtain ⟨r, hr⟩ := State.topJava?_eq_some.mp hg0
  have hr' : (({ U with heap := s₂.heap, slotsUsed := s₂.slotsUsed } : State).setVm s₂.vm).frames = .java g₀ :: r := hr
  rcases hq' with ⟨hqc, L, hfe, hL⟩ | ⟨q, rfl, E, ce, L, hx, hce, hcv, hcl, hW₂, hsm, hL⟩
  · obtain ⟨⟨v, rfl⟩, hW₂, e2, q2, q3, q4, q5, q6⟩ := id hfe
    have e3 : s₂ = ({ (U.calling g mk a).setFrames s₂.frames with heap := s₂.heap, slotsUsed := s₂.slotsUsed } : State).setVm s₂.vm := by
      have : s₂ = ({ s₂ with vm := (U.calling g mk a).vm } : State).setVm s₂.vm := rfl
      rw [e2] at this
      exact this
    obtain ⟨c₂, i₂, len₂, hc₂, hd₂, hf₂⟩ := hend
    have hW' : U.WarmedH s₂.vm := hW₂
    have hcc : c₂ = c := by
      have h1 : s₂.code? g.method = U.code? g.method := by
        rw [State.code?_eq, State.code?_eq, hW'.alike.method?]
      exact Option.some.inj (hc₂.symm.trans (h1.trans h.code))
    subst hcc
    have hlen : len₂ = len := by rw [hdg] at hd₂; cases hd₂; rfl
    subst hlen
    have hs₂ : s₂ = (({ U with heap := s₂.heap, slotsUsed := s₂.slotsUsed } : State).setVm s₂.vm).setTop { g with pc := g.pc + len₂, stack := v.toList ++ g.stack } := by
      refine e3.trans ?_
      rw [hf₂, State.calling_eq h.top, State.setFrames_setFrames, State.setTop_of_frames _ hr', hr]
      rfl
    have hsame : U.sameButNew ({ U with heap := s₂.heap, slotsUsed := s₂.slotsUsed } : State) L mc ms := by
      refine ⟨?_, q2, q3, q4, q5, q6⟩
      obtain ⟨t, ht, -⟩ := State.frames_cons hr
      show ({ U with heap := s₂.heap, slotsUsed := s₂.slotsUsed } : State) = { U.setFrames U.frames with heap := s₂.heap, slotsUsed := s₂.slotsUsed }
      rw [State.setFrames_self ht]
    subst hg
    refine Or.inl ⟨v, ⟨(({ U with heap := s₂.heap, slotsUsed := s₂.slotsUsed } : State).setVm s₂.vm), Ls ++ L, c0 + mc, s0 + ms⟩,
      ⟨X.admits, X.cas, X.clock, X.frames, X.room, X.hears, X.method, X.code, (X.here.setHeapUsed s₂.heap s₂.slotsUsed).setVm hW'.alike, X.tail, State.WarmedH.trans X.warmed hW', X.limits, X.bytes, X.same.trans (hsame.setVm s.vm)⟩,
      ⟨g, mk, s₂, L, rfl, rfl, hqc, rfl, hL, rfl, rfl⟩, ?_⟩
    show Steps p.tables e below _ ((({ U with heap := s₂.heap, slotsUsed := s₂.slotsUsed } : State).setVm s₂.vm).setTop { g with pc := g.pc + len₂, stack := v.toList ++ g.stack })
    rw [← hs₂]
    exact hsteps
  · obtain ⟨e2, q2, q3, q4, q5, q6⟩ := id hsm
    have e3 : s₂ = ({ (U.calling g mk a).setFrames s₂.frames with heap := s₂.heap, slotsUsed := s₂.slotsUsed } : State).setVm s₂.vm := by
      have : s₂ = ({ s₂ with vm := (U.calling g mk a).vm } : State).setVm s₂.vm := rfl
      rw [e2] at this
      exact this
    have hf₂ : s₂.frames = .throwing q :: .java g :: U.frames.tail := hend
    have hW' : U.WarmedH s₂.vm := hW₂
    have hs₂ : s₂ = ((({ U with heap := s₂.heap, slotsUsed := s₂.slotsUsed } : State).setVm s₂.vm).setTop g).pushFrame (.throwing q) := by
      refine e3.trans ?_
      rw [hf₂, State.calling_eq h.top, State.setFrames_setFrames, State.pushFrame, State.frames_setTop _ hr', State.setTop_of_frames _ hr', State.setFrames_setFrames, hr]
      rfl
    have hsame : U.sameButNew ({ U with heap := s₂.heap, slotsUsed := s₂.slotsUsed } : State) L mc ms := by
      refine ⟨?_, q2, q3, q4, q5, q6⟩
      obtain ⟨t, ht, -⟩ := State.frames_cons hr
      show ({ U with heap := s₂.heap, slotsUsed := s₂.slotsUsed } : State) = { U.setFrames U.frames with heap := s₂.heap, slotsUsed := s₂.slotsUsed }
      rw [State.setFrames_self ht]
    subst hg
    refine Or.inr ⟨q, ⟨(({ U with heap := s₂.heap, slotsUsed := s₂.slotsUsed } : State).setVm s₂.vm), Ls ++ L, c0 + mc, s0 + ms⟩,
      ⟨X.admits, X.cas, X.clock, X.frames, X.room, X.hears, X.method, X.code, (X.here.setHeapUsed s₂.heap s₂.slotsUsed).setVm hW'.alike, X.tail, State.WarmedH.trans X.warmed hW', X.limits, X.bytes, X.same.trans (hsame.setVm s.vm)⟩,
      ⟨g, mk, s₂, L, E, ce, rfl, rfl, hx, hce, hcv, hcl, rfl, hL, rfl, rfl⟩, ?_⟩
    show Steps p.tables e below _ (((({ U with heap := s₂.heap, slotsUsed := s₂.slotsUsed } : State).setVm s₂.vm).setTop g).pushFrame (.throwing q))
    rw [← hs₂]
    exact hsteps
end Payer
section Calls
variable {p : Program} {l : Launch} {e : Env} {R : Room} {s : State} {m : MethodId} {args : Array Value} {below : List Frame} {meth : Method} {c : Code} {T : State} {locs : List Loc} {cells slots : Nat}
theorem vx_callV (X : Stand p l e R s m args below meth c T locs cells slots) (hexec : p.tables.exec = Jvm.exec) {own C : String} {index : Nat} {y : MethodName} {bytes : ByteArray} {maxL : Nat} {ret : Option FieldType}
    (hown : s.vm.findClass own = some m.cls) (hlink : (Cond.methodLink own index y).before args s = true) (hinst : (Cond.instanceMethod y).before args s = true) (hsel : (Cond.selects C y y).before args s = true)
    (hcode : (Cond.code y bytes maxL ret).before args s = true) (hy : y.cls ≠ "java/lang/invoke/MethodHandle" ∧ y.cls ≠ "java/lang/invoke/VarHandle")
    {W9 : Nat} {Pre : Pt → Array Value → Prop} {Post : Pt → Array Value → Option Value → Pt → Prop} {PostX : Pt → Array Value → Addr → Pt → Prop} (hK : vx_Back l R p e below s args y 3 W9 Pre Post PostX)
    {b : Addr} {cellB : Cell} (hcell : T.heap[b]? = some cellB) (hobj : cellB.vm.isStatics = false) (hcls : s.vm.findClass C = some cellB.cls)
    {g : JFrame} (hg : g.method = m) (hsize : g.locals.size = c.maxLocals) {argsL rest : List Value} (hlen : ∀ sig, parseMethodDescriptor y.desc = some sig → argsL.length = sig.parameters.length)
    (hstack : g.stack = argsL.reverse ++ .ref b :: rest) (hW : 2 * g.monitorRoom + (rest.map fun v => v.category).sum ≤ W9) (hdg : decode c.code g.pc = .ok (.invokevirtual index, 3))
    (hpre : ∀ vm₁, s.WarmedH vm₁ → Pre ⟨T.setVm vm₁, locs, cells, slots⟩ (Value.ref b :: argsL).toArray) :
    (∃ (v : Option Value) (vm₁ : Vm) (B : Pt), s.WarmedH vm₁ ∧ Stand p l e R s m args below meth c B.U B.locs B.cells B.slots ∧ Post ⟨T.setVm vm₁, locs, cells, slots⟩ (Value.ref b :: argsL).toArray v B ∧
      ∀ target, Steps p.tables e below (B.U.setTop { g with pc := g.pc + 3, stack := v.toList ++ rest }) target → Steps p.tables e below (T.setTop g) target) ∨
    (∃ (q : Addr) (vm₁ : Vm) (B : Pt), s.WarmedH vm₁ ∧ Stand p l e R s m args below meth c B.U B.locs B.cells B.slots ∧ PostX ⟨T.setVm vm₁, locs, cells, slots⟩ (Value.ref b :: argsL).toArray q B ∧
      Steps p.tables e below (T.setTop g) ((B.U.setTop { g with stack := rest }).pushFrame (.throwing q))) := by
  obtain ⟨mk, methM, hnamed, hmethM, hstM, habM⟩ := Cond.instanceMethod_spec hinst
  obtain ⟨methM', cM, hmethM', -, -, -, -, -, -, hsigM⟩ := Cond.code_spec hnamed hcode
  cases hmethM.symm.trans hmethM'
  obtain ⟨c2, r2, m2, q1, q2, q3, q4, kP, hkP, hkPi⟩ := Cond.selects_spec hsel
  cases hcls.symm.trans q1
  cases (State.methodFound?_of_named hnamed hy).symm.trans q2
  cases hnamed.symm.trans q3
  have hselP : selectMethod e.platform s.vm cellB.cls mk = .method mk := by rw [Launch.admits_selectMethod X.admits]; exact q4
  obtain ⟨vm₁, X₁, hstep₁⟩ := X.invokevirtual hexec hown hlink hnamed hmethM hstM hkP hkPi hy (a := b) (cell := cellB) hcell
    (fun z h => by rw [h] at hobj; cases hobj) hselP hmethM habM hkP hkPi (g := g) hg (argsL := argsL) (rest := rest) (hlen _ hsigM) hstack hdg
  rcases hK m meth c ⟨T.setVm vm₁, locs, cells, slots⟩ { g with stack := rest } (.invokevirtual index) mk (Value.ref b :: argsL).toArray X₁ hg hsize hdg hW (X₁.named hnamed) (hpre vm₁ X₁.warmed) with ⟨v, B, X', hpost, hsteps⟩ | ⟨q, B, X', hpost, hsteps⟩
  · exact Or.inl ⟨v, vm₁, B, X₁.warmed, X', hpost, fun target h => hstep₁ _ fun acts => by rw [doInvoke_state]; exact hsteps.trans h⟩
  · exact Or.inr ⟨q, vm₁, B, X₁.warmed, X', hpost, hstep₁ _ fun acts => by rw [doInvoke_state]; exact hsteps⟩
theorem vx_callS (X : Stand p l e R s m args below meth c T locs cells slots) (hexec : p.tables.exec = Jvm.exec) {own : String} {index : Nat} {y : MethodName} {bytes : ByteArray} {maxL : Nat} {ret : Option FieldType}
    (hown : s.vm.findClass own = some m.cls) (hlink : (Cond.methodLink own index y).before args s = true) (hstat : (Cond.static y).before args s = true) (hinit : (Cond.initialized y.cls).before args s = true)
    (hcode : (Cond.code y bytes maxL ret).before args s = true) (hy : y.cls ≠ "java/lang/invoke/MethodHandle" ∧ y.cls ≠ "java/lang/invoke/VarHandle")
    {W9 : Nat} {Pre : Pt → Array Value → Prop} {Post : Pt → Array Value → Option Value → Pt → Prop} {PostX : Pt → Array Value → Addr → Pt → Prop} (hK : vx_Back l R p e below s args y 3 W9 Pre Post PostX)
    {g : JFrame} (hg : g.method = m) (hsize : g.locals.size = c.maxLocals) {argsL rest : List Value} (hlen : ∀ sig, parseMethodDescriptor y.desc = some sig → argsL.length = sig.parameters.length)
    (hstack : g.stack = argsL.reverse ++ rest) (hW : 2 * g.monitorRoom + (rest.map fun v => v.category).sum ≤ W9) (hdg : decode c.code g.pc = .ok (.invokestatic index, 3))
    (hpre : ∀ vm₁, s.WarmedH vm₁ → Pre ⟨T.setVm vm₁, locs, cells, slots⟩ argsL.toArray) :
    (∃ (v : Option Value) (vm₁ : Vm) (B : Pt), s.WarmedH vm₁ ∧ Stand p l e R s m args below meth c B.U B.locs B.cells B.slots ∧ Post ⟨T.setVm vm₁, locs, cells, slots⟩ argsL.toArray v B ∧
      ∀ target, Steps p.tables e below (B.U.setTop { g with pc := g.pc + 3, stack := v.toList ++ rest }) target → Steps p.tables e below (T.setTop g) target) ∨
    (∃ (q : Addr) (vm₁ : Vm) (B : Pt), s.WarmedH vm₁ ∧ Stand p l e R s m args below meth c B.U B.locs B.cells B.slots ∧ PostX ⟨T.setVm vm₁, locs, cells, slots⟩ argsL.toArray q B ∧
      Steps p.tables e below (T.setTop g) ((B.U.setTop { g with stack := rest }).pushFrame (.throwing q))) := by
  obtain ⟨mk, hnamed⟩ := Cond.code_named hcode
  obtain ⟨methM, cM, hmethM, -, -, -, -, -, -, hsigM⟩ := Cond.code_spec hnamed hcode
  have hstatic : methM.isStatic = true := Cond.static_spec hnamed hmethM hstat
  obtain ⟨kP, hkP, -⟩ := className_of_methodNamed hnamed
  have hinitP : kP.init = .initialized := Cond.initialized_spec (findClass_of_methodNamed hnamed) hkP hinit
  obtain ⟨vm₁, X₁, hstep₁⟩ := X.invokestatic hexec hown hlink hnamed hmethM hstatic hkP hinitP hy (g := g) hg (argsL := argsL) (rest := rest) (hlen _ hsigM) hstack hdg
  rcases hK m meth c ⟨T.setVm vm₁, locs, cells, slots⟩ { g with stack := rest } (.invokestatic index) mk argsL.toArray X₁ hg hsize hdg hW (X₁.named hnamed) (hpre vm₁ X₁.warmed) with ⟨v, B, X', hpost, hsteps⟩ | ⟨q, B, X', hpost, hsteps⟩
  · exact Or.inl ⟨v, vm₁, B, X₁.warmed, X', hpost, fun target h => hstep₁ _ fun acts => by rw [doInvoke_state]; exact hsteps.trans h⟩
  · exact Or.inr ⟨q, vm₁, B, X₁.warmed, X', hpost, hstep₁ _ fun acts => by rw [doInvoke_state]; exact hsteps⟩
end Calls
theorem vx_cls {s : State} {T : State} {vm₁ : Vm} {E : String} {k : ClassId} (hW : s.WarmedH vm₁) (h : (T.setVm vm₁).vm.findClass E = some k) : s.vm.findClass E = some k := by
  have h1 : vm₁.findClass E = some k := h
  rw [hW.alike.findClass] at h1
  exact h1
/-- the method's frame g, with q thrown over it -/
def vx_W (p : Program) (l : Launch) (e : Env) (R : Room) (s : State) (m : MethodId) (args : Array Value) (below : List Frame) (meth : Method) (c : Code) (H : Heap) (locs : List Loc) (cells slots : Nat) (Q : State → Prop) (g : JFrame) (q : Addr) : Prop :=
  ∀ T : State, T.heap = H → Stand p l e R s m args below meth c T locs cells slots → ∃ t, Steps p.tables e below ((T.setTop g).pushFrame (.throwing q)) t ∧ Q t
def vx_Run (p : Program) (l : Launch) (e : Env) (R : Room) (s : State) (m : MethodId) (args : Array Value) (below : List Frame) (meth : Method) (c : Code) (H : Heap) (locs : List Loc) (cells slots mc ms : Nat) (g : JFrame) (rest : List Value) (Qa : State → Outcome → State → Prop) (XC : String → State → State → Prop) (free : Addr → Prop) : Prop :=
  ∀ T : State, T.heap = H → Stand p l e R s m args below meth c T locs cells slots →
    (∃ (v : Option Value) (st₀ t T' : State) (L : List Loc), st₀.heap = H ∧ Stand p l e R s m args below meth c T' (locs ++ L) (cells + mc) (slots + ms) ∧ (∀ q ∈ L, free q.base) ∧ T'.heap = t.heap ∧ T'.vm = t.vm ∧ Qa st₀ (.returned v) t ∧
      Goes p e below T g T' { g with pc := g.pc + 3, stack := v.toList ++ rest }) ∨
    (∃ (q : Addr) (st₀ t T' : State) (L : List Loc) (E : String) (ce : Cell), st₀.heap = H ∧ Stand p l e R s m args below meth c T' (locs ++ L) (cells + mc) (slots + ms) ∧ (∀ z ∈ L, free z.base) ∧ T'.heap = t.heap ∧ T'.vm = t.vm ∧ XC E st₀ t ∧ t.heap[q]? = some ce ∧ ce.vm = .none ∧ s.vm.findClass E = some ce.cls ∧
      Steps p.tables e below (T.setTop g) ((T'.setTop { g with stack := rest }).pushFrame (.throwing q)))
def vx_X {S : Type} (px : S → Prop) (B : String → S → State → Prop) (A : Nat → Prop) : String → State → State → Prop := fun E st t => ∃ u : S, px u ∧ B E u t ∧ va_F A st t
section Runs
variable {p : Program} {l : Launch} {e : Env} {R : Room} {s : State} {m : MethodId} {args : Array Value} {below : List Frame} {meth : Method} {c : Code} {H : Heap} {locs : List Loc} {cells slots : Nat}
variable {y : MethodName} {bytes cc : ByteArray} {maxL nL mc ms n index : Nat} {ret : Option FieldType} {ws : List Cond} {rm : Room} {Pc : Array Value → State → Prop} {Qc : Array Value → State → Outcome → State → Prop} {XC : String → State → State → Prop} {free : Addr → Prop} {Ts : List Cond} {own C : String} {b : Addr} {As rest : List Value} {g : JFrame}
theorem vx_callBack (cb : CallB R s args own index y bytes maxL ret ws rm mc ms n) (hM : vx_Met l y ws rm Pc Qc XC mc ms free) (hbl : FrameBlind Pc) : vx_Back l R p e below s args y 3 8 (PreOf R mc ms Pc) (PostOf Qc mc ms free) (vx_Post XC mc ms free) := by
  obtain ⟨hrc, hrs, hfr, hlo, hws, hcw, -, hini, -⟩ := cb
  exact vx_back (bytes := bytes) (maxL := maxL) (ret := ret) hM hbl hrc hrs hfr hlo hws hcw (fun a' U hW => word_at hW (Or.inl (by first | rfl | simp [Cond.onTables, Cond.keeps, Cond.steady])) hini)
theorem vx_runV (S : CallFix p m c cc nL s args Ts own) (hM : vx_Met l y ws rm Pc Qc XC mc ms free) (cw : CallW R s args own C index y bytes maxL ret ws rm mc ms n) (hp : PreV s H C b Pc As)
    (hg : g.method = m) (hn : As.length = n) (hsize : g.locals.size = nL) (hstack : g.stack = As.reverse ++ .ref b :: rest) (hW : 2 * g.monitorRoom + (rest.map fun v => v.category).sum ≤ 8) (hdg : decode cc g.pc = .ok (.invokevirtual index, 3)) (hf : cells + mc ≤ R.cells ∧ slots + ms ≤ R.slots) :
    vx_Run p l e R s m args below meth c H locs cells slots mc ms g rest (Qc (Value.ref b :: As).toArray) XC free := by
  have hK : vx_Back l R p e below s args y 3 8 (PreOf R mc ms Pc) (PostOf Qc mc ms free) (vx_Post XC mc ms free) := vx_callBack cw.1 hM hp.1
  obtain ⟨⟨-, -, -, -, -, -, hcode, -, hy, hlen, hl⟩, hin, hse⟩ := cw
  obtain ⟨hx, hb, hml, ho, -⟩ := S
  obtain ⟨-, ⟨cellB, hcB, hoB, hclB⟩, hPc⟩ := hp
  intro T hT X
  rcases vx_callV X hx (C := C) (bytes := bytes) (maxL := maxL) (ret := ret) ho hl hin hse hcode hy hK (by rw [hT]; exact hcB) hoB hclB hg (hsize.trans hml.symm) (argsL := As) (rest := rest) (fun sig h => hn.trans (hlen sig h)) hstack hW (by rw [hb]; exact hdg)
    (fun vm₁ hW₁ => ⟨hf.1, hf.2, hPc (T.setVm vm₁) hT hW₁⟩) with ⟨v, vm₁, ⟨U', l2, c2, s2⟩, hW₁, X', ⟨g', mk, t, L, e1, e2, hq, h1, hL, h2, h3⟩, st⟩ | ⟨q, vm₁, ⟨U', l2, c2, s2⟩, hW₁, X', ⟨g', mk, t, L, E, ce, e1, e2, hq, hce, hcv, hcl, h1, hL, h2, h3⟩, st⟩
  · dsimp only [Pt.U, Pt.locs, Pt.cells, Pt.slots] at X' e1 e2 h1 h2 h3 st
    subst h1; subst h2; subst h3
    exact Or.inl ⟨v, (T.setVm vm₁).calling g' mk (Value.ref b :: As).toArray, t, U', L, hT, X', hL, e1, e2, hq, st⟩
  · dsimp only [Pt.U, Pt.locs, Pt.cells, Pt.slots] at X' e1 e2 h1 h2 h3 st hcl
    subst h1; subst h2; subst h3
    exact Or.inr ⟨q, (T.setVm vm₁).calling g' mk (Value.ref b :: As).toArray, t, U', L, E, ce, hT, X', hL, e1, e2, hq, hce, hcv, vx_cls hW₁ hcl, st⟩
theorem vx_runS (S : CallFix p m c cc nL s args Ts own) (hM : vx_Met l y ws rm Pc Qc XC mc ms free) (cw : CallB R s args own index y bytes maxL ret ws rm mc ms n ∧ (Cond.static y).before args s = true) (hp : PreS s H Pc As)
    (hg : g.method = m) (hn : As.length = n) (hsize : g.locals.size = nL) (hstack : g.stack = As.reverse ++ rest) (hW : 2 * g.monitorRoom + (rest.map fun v => v.category).sum ≤ 8) (hdg : decode cc g.pc = .ok (.invokestatic index, 3)) (hf : cells + mc ≤ R.cells ∧ slots + ms ≤ R.slots) :
    vx_Run p l e R s m args below meth c H locs cells slots mc ms g rest (Qc As.toArray) XC free := by
  have hK : vx_Back l R p e below s args y 3 8 (PreOf R mc ms Pc) (PostOf Qc mc ms free) (vx_Post XC mc ms free) := vx_callBack cw.1 hM hp.1
  obtain ⟨⟨-, -, -, -, -, -, hcode, hini, hy, hlen, hl⟩, hstt⟩ := cw
  obtain ⟨hx, hb, hml, ho, -⟩ := S
  intro T hT X
  rcases vx_callS X hx (bytes := bytes) (maxL := maxL) (ret := ret) ho hl hstt hini hcode hy hK hg (hsize.trans hml.symm) (argsL := As) (rest := rest) (fun sig h => hn.trans (hlen sig h)) hstack hW (by rw [hb]; exact hdg)
    (fun vm₁ hW₁ => ⟨hf.1, hf.2, hp.2 (T.setVm vm₁) hT hW₁⟩) with ⟨v, vm₁, ⟨U', l2, c2, s2⟩, hW₁, X', ⟨g', mk, t, L, e1, e2, hq, h1, hL, h2, h3⟩, st⟩ | ⟨q, vm₁, ⟨U', l2, c2, s2⟩, hW₁, X', ⟨g', mk, t, L, E, ce, e1, e2, hq, hce, hcv, hcl, h1, hL, h2, h3⟩, st⟩
  · dsimp only [Pt.U, Pt.locs, Pt.cells, Pt.slots] at X' e1 e2 h1 h2 h3 st
    subst h1; subst h2; subst h3
    exact Or.inl ⟨v, (T.setVm vm₁).calling g' mk As.toArray, t, U', L, hT, X', hL, e1, e2, hq, st⟩
  · dsimp only [Pt.U, Pt.locs, Pt.cells, Pt.slots] at X' e1 e2 h1 h2 h3 st hcl
    subst h1; subst h2; subst h3
    exact Or.inr ⟨q, (T.setVm vm₁).calling g' mk As.toArray, t, U', L, E, ce, hT, X', hL, e1, e2, hq, hce, hcv, vx_cls hW₁ hcl, st⟩
end Runs
section Rows
variable {p : Program} {l : Launch} {e : Env} {R : Room} {s : State} {m : MethodId} {args : Array Value} {below : List Frame} {meth : Method} {c : Code} {H : Heap} {locs : List Loc} {cells slots : Nat} {Q : State → Prop}
variable {mc ms : Nat} {free : Addr → Prop} {A0 A1 : Nat → Prop} {H0 : Heap} {a : Array Value} {pc : Nat} {ls : Array Slot} {st0 rest : List Value}
theorem vx_keep {st₀ t T' : State} {L : List Loc} (h0 : st₀.heap = H) (e1 : T'.heap = t.heap) (hS : va_S A0 H0 H locs) (hA : ∀ q, q < H.size → A1 q → A0 q) (hf : ∀ q, free q → A0 q) (hL : ∀ q ∈ L, free q.base) (hF : va_F A1 st₀ t) :
    H.size ≤ T'.heap.size ∧ (∀ q : Nat, q < H.size → ¬ A1 q → T'.heap[q]? = H[q]?) ∧ va_S A0 H0 T'.heap (locs ++ L) := by
  obtain ⟨hz, hk⟩ := hF
  rw [h0] at hz hk
  exact ⟨by rw [e1]; exact hz, fun q h1 h2 => by rw [e1]; exact hk q h1 h2,
    ⟨Nat.le_trans hS.1 (by rw [e1]; exact hz), fun q h1 h2 => by rw [e1, hk q (Nat.lt_of_lt_of_le h1 hS.1) (fun z => h2 (hA q (Nat.lt_of_lt_of_le h1 hS.1) z))]; exact hS.2.1 q h1 h2, fun q hq => by
      rcases List.mem_append.mp hq with h | h
      · exact hS.2.2 q h
      · exact hf _ (hL q h)⟩⟩
theorem vx_calli {S SX : Type} {post : Int32 → S → Prop} {px : SX → Prop} {B : S → State → Prop} {BX : String → SX → State → Prop} {AX : Nat → Prop} (hr : vx_Run p l e R s m args below meth c H locs cells slots mc ms (F0 m pc ls st0) rest (va_Qi post B A1 a) (vx_X px BX AX) free) (hS : va_S A0 H0 H locs) (hA : ∀ q, q < H.size → A1 q → A0 q) (hf : ∀ q, free q → A0 q) (hAX : ∀ q, q < H.size → AX q → A0 q)
    (kx : ∀ (E : String) (ce : Cell) (q9 : Addr) (u : SX) (t : State) (H1 : Heap) (locs1 : List Loc), t.heap = H1 → s.vm.Alike t.vm → px u → BX E u t → H.size ≤ H1.size → (∀ q : Nat, q < H.size → ¬ AX q → H1[q]? = H[q]?) → va_S A0 H0 H1 locs1 → H1[q9]? = some ce → ce.vm = .none → s.vm.findClass E = some ce.cls → vx_W p l e R s m args below meth c H1 locs1 (cells + mc) (slots + ms) Q (F0 m pc ls rest) q9)
    (kk : ∀ (r : Int32) (u : S) (t : State) (H1 : Heap) (locs1 : List Loc), t.heap = H1 → s.vm.Alike t.vm → post r u → B u t → H.size ≤ H1.size → (∀ q : Nat, q < H.size → ¬ A1 q → H1[q]? = H[q]?) → va_S A0 H0 H1 locs1 → W p l e R s m args below meth c H1 locs1 (cells + mc) (slots + ms) Q (F0 m (pc + 3) ls (.int r :: rest))) : W p l e R s m args below meth c H locs cells slots Q (F0 m pc ls st0) := by
  intro T hT X
  rcases hr T hT X with ⟨v, st₀, t, T', L, h0, X', hL, e1, e2, ⟨⟨r, u, hv, hp, hb⟩, hF⟩, st⟩ | ⟨q, st₀, t, T', L, E, ce, h0, X', hL, e1, e2, ⟨u, hp, hb, hF⟩, hce, hcv, hcl, st⟩
  · cases hv
    obtain ⟨k1, k2, k3⟩ := vx_keep h0 e1 hS hA hf hL hF
    obtain ⟨t2, a1, b1⟩ := kk r u t T'.heap (locs ++ L) e1.symm (by rw [← e2]; exact X'.warmed.alike) hp hb k1 k2 k3 T' rfl X'
    exact ⟨t2, st t2 a1, b1⟩
  · obtain ⟨k1, k2, k3⟩ := vx_keep h0 e1 hS hAX hf hL hF
    obtain ⟨t2, a1, b1⟩ := kx E ce q u t T'.heap (locs ++ L) e1.symm (by rw [← e2]; exact X'.warmed.alike) hp hb k1 k2 k3 (by rw [e1]; exact hce) hcv hcl T' rfl X'
    exact ⟨t2, st.trans a1, b1⟩
theorem vx_calll {S SX : Type} {post : Int64 → S → Prop} {px : SX → Prop} {B : S → State → Prop} {BX : String → SX → State → Prop} {AX : Nat → Prop} (hr : vx_Run p l e R s m args below meth c H locs cells slots mc ms (F0 m pc ls st0) rest (va_Ql post B A1 a) (vx_X px BX AX) free) (hS : va_S A0 H0 H locs) (hA : ∀ q, q < H.size → A1 q → A0 q) (hf : ∀ q, free q → A0 q) (hAX : ∀ q, q < H.size → AX q → A0 q)
    (kx : ∀ (E : String) (ce : Cell) (q9 : Addr) (u : SX) (t : State) (H1 : Heap) (locs1 : List Loc), t.heap = H1 → s.vm.Alike t.vm → px u → BX E u t → H.size ≤ H1.size → (∀ q : Nat, q < H.size → ¬ AX q → H1[q]? = H[q]?) → va_S A0 H0 H1 locs1 → H1[q9]? = some ce → ce.vm = .none → s.vm.findClass E = some ce.cls → vx_W p l e R s m args below meth c H1 locs1 (cells + mc) (slots + ms) Q (F0 m pc ls rest) q9)
    (kk : ∀ (r : Int64) (u : S) (t : State) (H1 : Heap) (locs1 : List Loc), t.heap = H1 → s.vm.Alike t.vm → post r u → B u t → H.size ≤ H1.size → (∀ q : Nat, q < H.size → ¬ A1 q → H1[q]? = H[q]?) → va_S A0 H0 H1 locs1 → W p l e R s m args below meth c H1 locs1 (cells + mc) (slots + ms) Q (F0 m (pc + 3) ls (.long r :: rest))) : W p l e R s m args below meth c H locs cells slots Q (F0 m pc ls st0) := by
  intro T hT X
  rcases hr T hT X with ⟨v, st₀, t, T', L, h0, X', hL, e1, e2, ⟨⟨r, u, hv, hp, hb⟩, hF⟩, st⟩ | ⟨q, st₀, t, T', L, E, ce, h0, X', hL, e1, e2, ⟨u, hp, hb, hF⟩, hce, hcv, hcl, st⟩
  · cases hv
    obtain ⟨k1, k2, k3⟩ := vx_keep h0 e1 hS hA hf hL hF
    obtain ⟨t2, a1, b1⟩ := kk r u t T'.heap (locs ++ L) e1.symm (by rw [← e2]; exact X'.warmed.alike) hp hb k1 k2 k3 T' rfl X'
    exact ⟨t2, st t2 a1, b1⟩
  · obtain ⟨k1, k2, k3⟩ := vx_keep h0 e1 hS hAX hf hL hF
    obtain ⟨t2, a1, b1⟩ := kx E ce q u t T'.heap (locs ++ L) e1.symm (by rw [← e2]; exact X'.warmed.alike) hp hb k1 k2 k3 (by rw [e1]; exact hce) hcv hcl T' rfl X'
    exact ⟨t2, st.trans a1, b1⟩
theorem vx_callf {S SX : Type} {post : UInt32 → S → Prop} {px : SX → Prop} {B : S → State → Prop} {BX : String → SX → State → Prop} {AX : Nat → Prop} (hr : vx_Run p l e R s m args below meth c H locs cells slots mc ms (F0 m pc ls st0) rest (va_Qf post B A1 a) (vx_X px BX AX) free) (hS : va_S A0 H0 H locs) (hA : ∀ q, q < H.size → A1 q → A0 q) (hf : ∀ q, free q → A0 q) (hAX : ∀ q, q < H.size → AX q → A0 q)
    (kx : ∀ (E : String) (ce : Cell) (q9 : Addr) (u : SX) (t : State) (H1 : Heap) (locs1 : List Loc), t.heap = H1 → s.vm.Alike t.vm → px u → BX E u t → H.size ≤ H1.size → (∀ q : Nat, q < H.size → ¬ AX q → H1[q]? = H[q]?) → va_S A0 H0 H1 locs1 → H1[q9]? = some ce → ce.vm = .none → s.vm.findClass E = some ce.cls → vx_W p l e R s m args below meth c H1 locs1 (cells + mc) (slots + ms) Q (F0 m pc ls rest) q9)
    (kk : ∀ (r : UInt32) (u : S) (t : State) (H1 : Heap) (locs1 : List Loc), t.heap = H1 → s.vm.Alike t.vm → post r u → B u t → H.size ≤ H1.size → (∀ q : Nat, q < H.size → ¬ A1 q → H1[q]? = H[q]?) → va_S A0 H0 H1 locs1 → W p l e R s m args below meth c H1 locs1 (cells + mc) (slots + ms) Q (F0 m (pc + 3) ls (.float r :: rest))) : W p l e R s m args below meth c H locs cells slots Q (F0 m pc ls st0) := by
  intro T hT X
  rcases hr T hT X with ⟨v, st₀, t, T', L, h0, X', hL, e1, e2, ⟨⟨r, u, hv, hp, hb⟩, hF⟩, st⟩ | ⟨q, st₀, t, T', L, E, ce, h0, X', hL, e1, e2, ⟨u, hp, hb, hF⟩, hce, hcv, hcl, st⟩
  · cases hv
    obtain ⟨k1, k2, k3⟩ := vx_keep h0 e1 hS hA hf hL hF
    obtain ⟨t2, a1, b1⟩ := kk r u t T'.heap (locs ++ L) e1.symm (by rw [← e2]; exact X'.warmed.alike) hp hb k1 k2 k3 T' rfl X'
    exact ⟨t2, st t2 a1, b1⟩
  · obtain ⟨k1, k2, k3⟩ := vx_keep h0 e1 hS hAX hf hL hF
    obtain ⟨t2, a1, b1⟩ := kx E ce q u t T'.heap (locs ++ L) e1.symm (by rw [← e2]; exact X'.warmed.alike) hp hb k1 k2 k3 (by rw [e1]; exact hce) hcv hcl T' rfl X'
    exact ⟨t2, st.trans a1, b1⟩
theorem vx_calld {S SX : Type} {post : UInt64 → S → Prop} {px : SX → Prop} {B : S → State → Prop} {BX : String → SX → State → Prop} {AX : Nat → Prop} (hr : vx_Run p l e R s m args below meth c H locs cells slots mc ms (F0 m pc ls st0) rest (va_Qd post B A1 a) (vx_X px BX AX) free) (hS : va_S A0 H0 H locs) (hA : ∀ q, q < H.size → A1 q → A0 q) (hf : ∀ q, free q → A0 q) (hAX : ∀ q, q < H.size → AX q → A0 q)
    (kx : ∀ (E : String) (ce : Cell) (q9 : Addr) (u : SX) (t : State) (H1 : Heap) (locs1 : List Loc), t.heap = H1 → s.vm.Alike t.vm → px u → BX E u t → H.size ≤ H1.size → (∀ q : Nat, q < H.size → ¬ AX q → H1[q]? = H[q]?) → va_S A0 H0 H1 locs1 → H1[q9]? = some ce → ce.vm = .none → s.vm.findClass E = some ce.cls → vx_W p l e R s m args below meth c H1 locs1 (cells + mc) (slots + ms) Q (F0 m pc ls rest) q9)
    (kk : ∀ (r : UInt64) (u : S) (t : State) (H1 : Heap) (locs1 : List Loc), t.heap = H1 → s.vm.Alike t.vm → post r u → B u t → H.size ≤ H1.size → (∀ q : Nat, q < H.size → ¬ A1 q → H1[q]? = H[q]?) → va_S A0 H0 H1 locs1 → W p l e R s m args below meth c H1 locs1 (cells + mc) (slots + ms) Q (F0 m (pc + 3) ls (.double r :: rest))) : W p l e R s m args below meth c H locs cells slots Q (F0 m pc ls st0) := by
  intro T hT X
  rcases hr T hT X with ⟨v, st₀, t, T', L, h0, X', hL, e1, e2, ⟨⟨r, u, hv, hp, hb⟩, hF⟩, st⟩ | ⟨q, st₀, t, T', L, E, ce, h0, X', hL, e1, e2, ⟨u, hp, hb, hF⟩, hce, hcv, hcl, st⟩
  · cases hv
    obtain ⟨k1, k2, k3⟩ := vx_keep h0 e1 hS hA hf hL hF
    obtain ⟨t2, a1, b1⟩ := kk r u t T'.heap (locs ++ L) e1.symm (by rw [← e2]; exact X'.warmed.alike) hp hb k1 k2 k3 T' rfl X'
    exact ⟨t2, st t2 a1, b1⟩
  · obtain ⟨k1, k2, k3⟩ := vx_keep h0 e1 hS hAX hf hL hF
    obtain ⟨t2, a1, b1⟩ := kx E ce q u t T'.heap (locs ++ L) e1.symm (by rw [← e2]; exact X'.warmed.alike) hp hb k1 k2 k3 (by rw [e1]; exact hce) hcv hcl T' rfl X'
    exact ⟨t2, st.trans a1, b1⟩
theorem vx_callv {S SX : Type} {post : S → Prop} {px : SX → Prop} {B : S → State → Prop} {BX : String → SX → State → Prop} {AX : Nat → Prop} (hr : vx_Run p l e R s m args below meth c H locs cells slots mc ms (F0 m pc ls st0) rest (va_Qv post B A1 a) (vx_X px BX AX) free) (hS : va_S A0 H0 H locs) (hA : ∀ q, q < H.size → A1 q → A0 q) (hf : ∀ q, free q → A0 q) (hAX : ∀ q, q < H.size → AX q → A0 q)
    (kx : ∀ (E : String) (ce : Cell) (q9 : Addr) (u : SX) (t : State) (H1 : Heap) (locs1 : List Loc), t.heap = H1 → s.vm.Alike t.vm → px u → BX E u t → H.size ≤ H1.size → (∀ q : Nat, q < H.size → ¬ AX q → H1[q]? = H[q]?) → va_S A0 H0 H1 locs1 → H1[q9]? = some ce → ce.vm = .none → s.vm.findClass E = some ce.cls → vx_W p l e R s m args below meth c H1 locs1 (cells + mc) (slots + ms) Q (F0 m pc ls rest) q9)
    (kk : ∀ (u : S) (t : State) (H1 : Heap) (locs1 : List Loc), t.heap = H1 → s.vm.Alike t.vm → post u → B u t → H.size ≤ H1.size → (∀ q : Nat, q < H.size → ¬ A1 q → H1[q]? = H[q]?) → va_S A0 H0 H1 locs1 → W p l e R s m args below meth c H1 locs1 (cells + mc) (slots + ms) Q (F0 m (pc + 3) ls (rest))) : W p l e R s m args below meth c H locs cells slots Q (F0 m pc ls st0) := by
  intro T hT X
  rcases hr T hT X with ⟨v, st₀, t, T', L, h0, X', hL, e1, e2, ⟨⟨u, hv, hp, hb⟩, hF⟩, st⟩ | ⟨q, st₀, t, T', L, E, ce, h0, X', hL, e1, e2, ⟨u, hp, hb, hF⟩, hce, hcv, hcl, st⟩
  · cases hv
    obtain ⟨k1, k2, k3⟩ := vx_keep h0 e1 hS hA hf hL hF
    obtain ⟨t2, a1, b1⟩ := kk u t T'.heap (locs ++ L) e1.symm (by rw [← e2]; exact X'.warmed.alike) hp hb k1 k2 k3 T' rfl X'
    exact ⟨t2, st t2 a1, b1⟩
  · obtain ⟨k1, k2, k3⟩ := vx_keep h0 e1 hS hAX hf hL hF
    obtain ⟨t2, a1, b1⟩ := kx E ce q u t T'.heap (locs ++ L) e1.symm (by rw [← e2]; exact X'.warmed.alike) hp hb k1 k2 k3 (by rw [e1]; exact hce) hcv hcl T' rfl X'
    exact ⟨t2, st.trans a1, b1⟩
/-- caught by the row x of this method's table; the rows ahead don't take it -/
theorem vx_catch {own name : String} {E : String} {ce : Cell} {q : Addr} (hown : s.vm.findClass own = some m.cls) (pre : List ExceptionTableEntry) (x : ExceptionTableEntry) (suf : List ExceptionTableEntry) (hsplit : c.exceptionTable.toList = pre ++ x :: suf)
    (hpass : ∀ z ∈ pre, covers z pc = false ∨ (z.catchType ≠ 0 ∧ ∃ nm : String, (Cond.classLink own z.catchType nm).before args s = true ∧ va_Nc E nm s)) (hx : covers x pc = true) (h0 : x.catchType ≠ 0)
    (hlink : (Cond.classLink own x.catchType name).before args s = true) (hcast : (Cond.castable E name).before args s = true) (hcell : H[q]? = some ce) (hv : ce.vm = .none) (hcl : s.vm.findClass E = some ce.cls)
    (kk : W p l e R s m args below meth c H locs cells slots Q (F0 m x.handlerPc ls [.ref q])) : vx_W p l e R s m args below meth c H locs cells slots Q (F0 m pc ls rest) q := by
  intro T hT X
  have hpl : e.platform.magicAccessors = ({} : Platform).magicAccessors := by rw [X.admits.platform]
  obtain ⟨c3, c4, hc3, hc4, hasg⟩ := Cond.castable_spec hcast
  cases Option.some.inj (hc3.symm.trans hcl)
  obtain ⟨c5, hc5, hcl5⟩ := Cond.classLink_spec hown hlink e.platform hpl
  cases Option.some.inj (hc4.symm.trans hc5)
  obtain ⟨vm', X', st⟩ := X.thenCaughtThrough q (g := F0 m pc ls rest) rfl (Steps.refl _) (by rw [hT]; exact hcell) (by rw [hv]; rfl) (by obtain ⟨k9, h9, -⟩ := Vm.findClass_spec hcl; exact ⟨k9, h9⟩) pre x suf hsplit
    (fun z hz => by
      rcases hpass z hz with h | ⟨hz0, nm, hl1, hn1⟩
      · exact Or.inl h
      · obtain ⟨c6, hc6, hcl6⟩ := Cond.classLink_spec hown hl1 e.platform hpl
        obtain ⟨a8, b8, h1, h2, h3⟩ := hn1
        cases Option.some.inj (h1.symm.trans hcl)
        cases Option.some.inj (h2.symm.trans hc6)
        exact Or.inr ⟨hz0, _, hcl6, h3⟩) hx (Or.inr ⟨h0, c4, hcl5, hasg⟩)
  obtain ⟨t, a1, b1⟩ := kk (T.setVm vm') hT X'
  exact ⟨t, st.trans a1, b1⟩
end Rows
section Ends
variable {p : Program} {l : Launch} {e : Env} {R : Room} {s : State} {m : MethodId} {args : Array Value} {below : List Frame} {meth : Method} {c : Code} {H : Heap} {locs : List Loc} {cells slots : Nat} {Q : State → Prop}
variable {mc ms : Nat} {free : Addr → Prop} {A0 A1 : Nat → Prop} {H0 : Heap} {a : Array Value} {ls : Array Slot} {st0 rest : List Value}
variable {Qc : Array Value → State → Outcome → State → Prop} {XC : String → State → State → Prop}
/-- what a body that may throw owes at its end -/
def vx_MQ (below : List Frame) (Qc : Array Value → State → Outcome → State → Prop) (XC : String → State → State → Prop) (a : Array Value) (s : State) (mc ms : Nat) (free : Addr → Prop) : State → Prop := fun t =>
  ∃ o, t.status = .running ∧ Ended t below o ∧ vx_Q Qc XC mc ms free a s o t
theorem vx_ret {g : JFrame} {mc ms : Nat} (k : W p l e R s m args below meth c H locs cells slots (MQ below Qc args s mc ms free) g) : W p l e R s m args below meth c H locs cells slots (vx_MQ below Qc XC args s mc ms free) g := by
  intro T hT X
  obtain ⟨t, a1, o, b1, b2, b3, b4⟩ := k T hT X
  exact ⟨t, a1, o, b1, b2, Or.inl ⟨b3, b4⟩⟩
/-- not caught here: it goes on to the caller -/
theorem vx_widen {g : JFrame} {q : Addr} {k n : Nat} (h1 : cells ≤ k) (h2 : slots ≤ n) (kk : vx_W p l e R s m args below meth c H locs k n Q g q) : vx_W p l e R s m args below meth c H locs cells slots Q g q := fun T hT X => kk T hT (stand_widen X h1 h2)
theorem vx_out {pc : Nat} {E : String} {ce : Cell} {q : Addr} {mc ms : Nat} (hout : ∀ x ∈ c.exceptionTable.toList, covers x pc = false) (hlocks : meth.locks = false) (hcell : H[q]? = some ce) (hv : ce.vm = .none) (hcl : s.vm.findClass E = some ce.cls)
    (hx : ∀ t : State, t.heap = H → s.vm.Alike t.vm → XC E s t) (hf : ∀ z ∈ locs, free z.base) (hc : cells ≤ mc) (hs : slots ≤ ms) :
    vx_W p l e R s m args below meth c H locs cells slots (vx_MQ below Qc XC args s mc ms free) (F0 m pc ls rest) q := by
  intro T hT X
  obtain ⟨st1, hrun, hend, hW, hsm⟩ := X.leaveThrown q (g := F0 m pc ls rest) rfl rfl rfl hout hlocks
  have hcell9 : (T.setFrames (.throwing q :: below)).heap[q]? = some ce := by
    show T.heap[q]? = some ce
    rw [hT]; exact hcell
  exact ⟨_, st1, .threw q, hrun, hend, Or.inr ⟨q, rfl, E, ce, locs, hx _ hT hW.alike, hcell9, hv, hcl, hW, hsm.mono hc hs, hf⟩⟩
theorem vx_frame {U : State} {k n : Nat} (h : s.sameButNew ({ U with vm := s.vm } : State) locs k n) : s.heap.size ≤ U.heap.size ∧ ∀ q : Nat, q < s.heap.size → (∀ z ∈ locs, z.base ≠ q) → U.heap[q]? = s.heap[q]? := by
  obtain ⟨-, h2, -, -, -, h6⟩ := h
  refine ⟨h2, fun q hq hz => ?_⟩
  obtain ⟨c9, e1, e2, e3, e4⟩ := h6 q _ (Array.getElem?_eq_getElem hq)
  have hs : c9.slots = (s.heap[q]).slots := Array.ext_getElem? fun i => e4 i fun hm => hz _ hm rfl
  have h9 : c9 = s.heap[q] := by
    rw [hs] at e2
    exact e2
  have e5 : U.heap[q]? = some c9 := e1
  rw [e5, h9, Array.getElem?_eq_getElem hq]
/-- the words of a throw but the four that speak of the heap -/
def vx_no (w : Cond) : Bool := decide (w ≠ .isRef (.static Bundle.tN "UNASSIGNED_STACK" Bundle.steD)) && decide (w ≠ .isRef (.static Bundle.tN "SUPPRESSED_SENTINEL" Bundle.listD)) && decide (w ≠ .laysStatic Bundle.tN "UNASSIGNED_STACK" Bundle.steD) && decide (w ≠ .laysStatic Bundle.tN "SUPPRESSED_SENTINEL" Bundle.listD)
def vx_at0 (own : String) (ic : Nat) (X : String) (names : List String) : List Cond := (Bundle.ownAtoms0 own ic X names).filter vx_no
def vx_atS (own : String) (ic : Nat) (X : String) (names : List String) : List Cond := (Bundle.ownAtoms own ic X names).filter vx_no
/-- a word that the tables alone decide, or a good one -/
def vx_ot (w : Cond) : Bool := w.onTables || goodWord w
theorem vx_ot_at {args a' : Array Value} {s U : State} {w : Cond} (hW : s.WarmedH U.vm) (hvm : s.vm = U.vm) (hg : vx_ot w = true) (h : w.before args s = true) : w.before a' U = true := by
  simp only [vx_ot, Bool.or_eq_true] at hg
  rcases hg with hg | hg
  · exact va_tabs hg hvm h
  · exact word_at hW (good_of_word hg) h
/-- a list's words: the good ones out of the method's own list, the others by premises of their own -/
theorem vx_hat {args : Array Value} {s : State} {L B : List Cond} (h1 : ∀ w ∈ L.filter goodWord, w.before args s = true) (h2 : ∀ w ∈ L.filter (fun w => !goodWord w), w ∈ B) (h3 : ∀ w ∈ B, w.before args s = true) : ∀ w ∈ L, w.before args s = true := by
  intro w hw
  by_cases g : goodWord w = true
  · exact h1 w (List.mem_filter.mpr ⟨hw, g⟩)
  · refine h3 w (h2 w (List.mem_filter.mpr ⟨hw, ?_⟩))
    show (!goodWord w) = true
    cases hgw : goodWord w
    · rfl
    · exact absurd hgw g
theorem vx_c {args : Array Value} {s : State} {w : Cond} {B : List Cond} (h : w.before args s = true) (t : ∀ w ∈ B, w.before args s = true) : ∀ w' ∈ w :: B, w'.before args s = true := fun w' h' => (List.mem_cons.mp h').elim (fun e => by rw [e]; exact h) (t w')
theorem vx_n {args : Array Value} {s : State} : ∀ w ∈ ([] : List Cond), w.before args s = true := fun _ h => nomatch h
theorem vx_own {args : Array Value} {s : State} {L : List Cond} (h1 : ∀ w ∈ L.filter vx_no, w.before args s = true)
    (hU : (Cond.isRef (.static Bundle.tN "UNASSIGNED_STACK" Bundle.steD)).before args s = true) (hN : (Cond.isRef (.static Bundle.tN "SUPPRESSED_SENTINEL" Bundle.listD)).before args s = true)
    (lU : (Cond.laysStatic Bundle.tN "UNASSIGNED_STACK" Bundle.steD).before args s = true) (lN : (Cond.laysStatic Bundle.tN "SUPPRESSED_SENTINEL" Bundle.listD).before args s = true) : ∀ w ∈ L, w.before args s = true := by
  intro w hw
  by_cases e1 : w = .isRef (.static Bundle.tN "UNASSIGNED_STACK" Bundle.steD)
  · rw [e1]; exact hU
  · by_cases e2 : w = .isRef (.static Bundle.tN "SUPPRESSED_SENTINEL" Bundle.listD)
    · rw [e2]; exact hN
    · by_cases e3 : w = .laysStatic Bundle.tN "UNASSIGNED_STACK" Bundle.steD
      · rw [e3]; exact lU
      · by_cases e4 : w = .laysStatic Bundle.tN "SUPPRESSED_SENTINEL" Bundle.listD
        · rw [e4]; exact lN
        · exact h1 w (List.mem_filter.mpr ⟨hw, by unfold vx_no; rw [decide_eq_true e1, decide_eq_true e2, decide_eq_true e3, decide_eq_true e4]; rfl⟩)
/-- where a static field lies, its class's statics cell in H -/
def vx_L (C n d : String) (A : Nat → Prop) (U : State) (H : Heap) : Prop := ∃ (c : ClassId) (k : Class) (i : Nat) (f : Field) (a : Nat) (cell : Cell), U.vm.findClass C = some c ∧ U.fieldFound? C n d = some (c, k, i, f) ∧ f.isStatic = true ∧ k.statics = some a ∧ H[a]? = some cell ∧ cell.vm.isStatics = true ∧ cell.cls = c ∧ f.slot < cell.slots.size ∧ k.staticTypes[f.slot]? = some f.type ∧ ¬ A a
theorem vx_L.moved {C n d : String} {A : Nat → Prop} {u U : State} {H : Heap} (hvm : u.vm.Alike U.vm) (h : vx_L C n d A u H) : vx_L C n d A U H := by
  obtain ⟨c, k, i, f, a, cell, h1, h2, h3, h4, h5, h6, h7, h8, h9, h10⟩ := h
  obtain ⟨k', hi', he⟩ := State.fieldFound?_setVm hvm h2
  exact ⟨c, k', i, f, a, cell, by rw [hvm.findClass]; exact h1, hi', h3, by rw [he]; exact h4, h5, h6, h7, h8, by rw [he]; exact h9, h10⟩
theorem vx_L.kept {C n d : String} {A : Nat → Prop} {U : State} {H H1 : Heap} (h : vx_L C n d A U H) (hq : ∀ a : Nat, a < H.size → ¬ A a → H1[a]? = H[a]?) : vx_L C n d A U H1 := by
  obtain ⟨c, k, i, f, a, cell, h1, h2, h3, h4, h5, h6, h7, h8, h9, h10⟩ := h
  exact ⟨c, k, i, f, a, cell, h1, h2, h3, h4, by rw [hq a (Array.getElem?_eq_some_iff.mp h5).1 h10]; exact h5, h6, h7, h8, h9, h10⟩
theorem vx_L.narrow {C n d : String} {A B : Nat → Prop} {U : State} {H : Heap} (h : vx_L C n d A U H) (hAB : ∀ q, B q → A q) : vx_L C n d B U H := by
  obtain ⟨c, k, i, f, a, cell, h1, h2, h3, h4, h5, h6, h7, h8, h9, h10⟩ := h
  exact ⟨c, k, i, f, a, cell, h1, h2, h3, h4, h5, h6, h7, h8, h9, fun z => h10 (hAB _ z)⟩
theorem vx_L.word {C n d : String} {A : Nat → Prop} {s : State} {args : Array Value} (h : vx_L C n d A s s.heap) : (Cond.laysStatic C n d).before args s = true := by
  obtain ⟨c, k, i, f, a, cell, h1, h2, h3, h4, h5, h6, h7, h8, h9, -⟩ := h
  show (Cond.laysStatic C n d).holds args s none s [] = true
  exact Cond.laysStatic_of h1 h2 h3 h4 h5 h6 h7 h8 h9
/-- .. and what it holds: null or some reference -/
def vx_Zq (C n d : String) (A : Nat → Prop) (U : State) (H : Heap) : Prop := va_Zq C n d A U H ∧ vx_L C n d A U H
theorem vx_Zq.moved {C n d : String} {A : Nat → Prop} {u U : State} {H : Heap} (hvm : u.vm.Alike U.vm) (h : vx_Zq C n d A u H) : vx_Zq C n d A U H := ⟨va_Zq.moved hvm h.1, vx_L.moved hvm h.2⟩
theorem vx_Zq.kept {C n d : String} {A : Nat → Prop} {U : State} {H H1 : Heap} (h : vx_Zq C n d A U H) (hq : ∀ a : Nat, a < H.size → ¬ A a → H1[a]? = H[a]?) : vx_Zq C n d A U H1 := ⟨va_Zq.kept h.1 hq, vx_L.kept h.2 hq⟩
theorem vx_Zq.narrow {C n d : String} {A B : Nat → Prop} {U : State} {H : Heap} (h : vx_Zq C n d A U H) (hAB : ∀ q, B q → A q) : vx_Zq C n d B U H := ⟨va_Zq.narrow h.1 hAB, vx_L.narrow h.2 hAB⟩
theorem vx_Zqof {args : Array Value} {s : State} {C n d : String} {A : Nat → Prop} (hl : (Cond.laysStatic C n d).before args s = true) (hini : (Cond.initialized C).before args s = true) (h : (Cond.isRef (.static C n d)).before args s = true) (hA : ∀ a : Nat, a < s.heap.size → ¬ A a) : vx_Zq C n d A s s.heap := by
  refine ⟨va_Zqof hl hini h hA, ?_⟩
  obtain ⟨c, k, i, f, a, cell, h1, h2, h3, h4, h5, h6, h7, h8, h9⟩ := Cond.laysStatic_spec hl
  exact ⟨c, k, i, f, a, cell, h1, h2, h3, h4, h5, h6, h7, h8, h9, hA a (Array.getElem?_eq_some_iff.mp h5).1⟩
theorem vx_isRef {C n d : String} {v : Value} {A : Nat → Prop} {s : State} {args : Array Value} (h : va_Z C n d v A s s.heap) (hv : v.isRef = true) : (Cond.isRef (.static C n d)).before args s = true := by
  obtain ⟨cf, kf, fi, f, a, cell, h1, h2, h3, h4, h5, h6, h7, -⟩ := h
  have he : (Term.static C n d).eval args s none [] s = some v := by
    simp [Term.eval, State.fieldNamed?, h1, h2, h4, h5, h6, h7]
  simp only [Cond.before, Cond.holds, Cond.value, he]
  cases v <;> simp_all [Value.isRef]
theorem vx_isRefq {C n d : String} {A : Nat → Prop} {s : State} {args : Array Value} (h : va_Zq C n d A s s.heap) : (Cond.isRef (.static C n d)).before args s = true := by
  rcases h with h | ⟨t, h⟩
  · exact vx_isRef h rfl
  · exact vx_isRef h rfl
/-- the same frame, seen from here: as if the method were called anew in this heap -/
theorem vx_rebase {T : State} (X : Stand p l e R s m args below meth c T locs cells slots) {R' : Room} (hf : R'.frames ≤ R.frames) (hl : R'.locals ≤ R.locals) (hc : cells + R'.cells ≤ R.cells) (hs : slots + R'.slots ≤ R.slots) :
    Stand p l e R' ((T.setVm s.vm).setFrames (.invoking m args :: below)) m args below meth c T [] 0 0 := by
  have htop : (T.setVm s.vm).topJava?.isSome := X.here.top
  have hF : ((T.setVm s.vm).setFrames (.invoking m args :: below)).frames = .invoking m args :: below := State.frames_setFrames _ (State.cur_lt_of_top htop)
  obtain ⟨g₀, hg0⟩ := Option.isSome_iff_exists.mp htop
  obtain ⟨r, hr⟩ := State.topJava?_eq_some.mp hg0
  have hl9 : e.platform.stackLimits (T.setVm s.vm).me = e.platform.stackLimits s.me := X.limits
  have hb9 : (T.setVm s.vm).me.stackBytes = s.me.stackBytes := X.bytes
  refine ⟨X.admits, X.cas, X.clock, hF, ?_, X.hears, X.method, X.code, X.here, X.tail, X.warmed, ?_, ?_, ?_⟩
  · have h := X.room
    have hU : ((T.setVm s.vm).setFrames (.invoking m args :: below)).localsInUse = s.localsInUse := by
      rw [State.localsInUse_invoking hF (meth := meth) (c := c) X.method X.code, State.localsInUse_invoking X.frames X.method X.code]
    simp only [State.hasRoom, Bool.and_eq_true, decide_eq_true_eq] at h ⊢
    obtain ⟨⟨⟨⟨h1, h2, h3, h4, h5, h6⟩, h7⟩, h8⟩, h9⟩ := h
    rw [X.frames, List.length_cons] at h2 h3
    have q1 := X.heapSize
    have q2 := X.used
    simp only [hF, hU, List.length_cons, State.stackLimits_setFrames, State.stackBytes_setFrames, hl9, hb9]
    refine ⟨⟨⟨⟨by omega, by omega, by omega, by omega, by omega, h6⟩, ?_⟩, ?_⟩, X.book⟩
    · show T.heap.size + R'.cells ≤ e.platform.maxCells
      omega
    · show T.slotsUsed + R'.slots ≤ e.platform.maxSlots
      omega
  · rw [State.stackLimits_setFrames]; rfl
  · rw [State.stackBytes_setFrames]; rfl
  · refine ⟨?_, Nat.le_refl _, Nat.le_refl _, ?_, ?_, fun a c9 h9 => ⟨c9, h9, rfl, rfl, fun _ _ => rfl⟩⟩
    · obtain ⟨t, ht, -⟩ := State.frames_cons hr
      show T.setVm s.vm = { ((T.setVm s.vm).setFrames (.invoking m args :: below)).setFrames (T.setVm s.vm).frames with heap := T.heap, slotsUsed := T.slotsUsed }
      rw [State.setFrames_setFrames, State.setFrames_self ht]
      rfl
    · show T.slotsUsed = T.slotsUsed + ((T.heap.toList.drop T.heap.size).map (·.slots.size)).sum
      rw [List.drop_eq_nil_of_le (Nat.le_of_eq Array.length_toList)]
      rfl
    · show ((T.heap.toList.drop T.heap.size).map (·.slots.size)).sum ≤ 0
      rw [List.drop_eq_nil_of_le (Nat.le_of_eq Array.length_toList)]
      exact Nat.le_refl _
/-- 'throw new E()': new; dup; invokespecial; athrow -/
theorem vx_throw0 {cc : ByteArray} {pc : Nat} (hexec : p.tables.exec = Jvm.exec) (hb : c.code = cc) (hl : l.stackTraces = false) {own cls : String} {names : List String} {ik ic mc ms : Nat} {A : Nat → Prop}
    (hown : s.vm.findClass own = some m.cls) (hcls : Bundle.fit cls = true) (hnames : ∀ n ∈ names, Bundle.fit n = true)
    (hk : (Cond.classLink own ik cls).before args s = true) (hini : (Cond.initialized cls).before args s = true) (hat : ∀ w ∈ vx_at0 own ic cls names, w.before args s = true)
    (hgood : ∀ w ∈ Cond.classLink own ik cls :: Cond.initialized cls :: vx_at0 own ic cls names, vx_ot w = true)
    (hU : vx_Zq Bundle.tN "UNASSIGNED_STACK" Bundle.steD A s s.heap) (hN : vx_Zq Bundle.tN "SUPPRESSED_SENTINEL" Bundle.listD A s s.heap) (hS : va_S A s.heap H locs) (hsize : ls.size = c.maxLocals)
    (d0 : decode cc pc = .ok (.new ik, 3)) (d3 : decode cc (pc + 3) = .ok (.dup, 1)) (d4 : decode cc (pc + 4) = .ok (.invokespecial ic, 3)) (d7 : decode cc (pc + 7) = .ok (.athrow, 1))
    (hout : ∀ x ∈ c.exceptionTable.toList, covers x (pc + 7) = false)
    (hRframes : names.length + 3 < R.frames) (hRlocals : (rest.map fun v => v.category).sum + (13 * (names.length + 1) + 42) ≤ R.locals) (hRcells : cells + 1 ≤ R.cells) (hRslots : slots + 6 ≤ R.slots) (hlocks : meth.locks = false)
    (hx : ∀ t : State, s.vm.Alike t.vm → H.size ≤ t.heap.size → (∀ q : Nat, q < H.size → t.heap[q]? = H[q]?) → XC cls s t)
    (hf : ∀ z ∈ locs, free z.base) (hc : cells + 1 ≤ mc) (hs : slots + 6 ≤ ms) :
    W p l e R s m args below meth c H locs cells slots (vx_MQ below Qc XC args s mc ms free) (F0 m pc ls rest) := by
  intro T hT X
  have htr : e.platform.stackTraces = false := (show e.platform.stackTraces = l.stackTraces by rw [X.admits.platform]).trans hl
  have Y := vx_rebase X (R' := { frames := R.frames, locals := R.locals, cells := 1, slots := 6 }) (Nat.le_refl _) (Nat.le_refl _) hRcells hRslots
  obtain ⟨s', hA⟩ : ∃ z, z = (T.setVm s.vm).setFrames (.invoking m args :: below) := ⟨_, rfl⟩
  rw [← hA] at Y
  have hvm : s'.vm = s.vm := by rw [hA]; rfl
  have hhp : s'.heap = H := by rw [hA]; exact hT
  have hW0 : s.WarmedH s'.vm := by rw [hvm]; exact State.WarmedH.refl s
  have hat' : ∀ w ∈ vx_at0 own ic cls names, w.before args s' = true := fun w hw => vx_ot_at hW0 hvm.symm (hgood w (List.mem_cons_of_mem _ (List.mem_cons_of_mem _ hw))) (hat w hw)
  have hk' : (Cond.classLink own ik cls).before args s' = true := vx_ot_at hW0 hvm.symm (hgood _ List.mem_cons_self) hk
  have hini' : (Cond.initialized cls).before args s' = true := vx_ot_at hW0 hvm.symm (hgood _ (List.mem_cons_of_mem _ List.mem_cons_self)) hini
  have hU' : vx_Zq Bundle.tN "UNASSIGNED_STACK" Bundle.steD A s' s'.heap := by rw [hhp]; exact vx_Zq.moved hW0.alike (hU.kept hS.2.1)
  have hN' : vx_Zq Bundle.tN "SUPPRESSED_SENTINEL" Bundle.listD A s' s'.heap := by rw [hhp]; exact vx_Zq.moved hW0.alike (hN.kept hS.2.1)
  have h : ∀ w ∈ Bundle.ownAtoms0 own ic cls names, w.before args s' = true := vx_own hat' (vx_isRefq hU'.1) (vx_isRefq hN'.1) hU'.2.word hN'.2.word
  have hown' : s'.vm.findClass own = some m.cls := by rw [hvm]; exact hown
  have hins : (Cond.instantiable cls 6).before args s' = true := h _ (by simp [Bundle.ownAtoms0])
  obtain ⟨vm₁, cX, kX, hfX, hkX, -, -, X₁, st1⟩ := Y.newCold hexec (own := own) (C := cls) (index := ik) (n := 6) hown' hk' hins hini'
    (g := F0 m pc ls rest) rfl (by rw [hb]; exact d0) (Nat.le_refl _) (Nat.le_refl _)
  generalize hT1 : (T.setVm vm₁).pushCell { cls := cX, slots := kX.instanceTypes.map defaultValue, vm := .none } = T1 at X₁ st1
  have hcat : (Value.ref T.heap.size).category = 1 := rfl
  have hcellA : T1.heap[T.heap.size]? = some (freshCell cX kX) := by rw [← hT1]; exact State.heap_pushCell_size _ _
  have d3' : decode c.code (pc + 3) = .ok (.dup, 1) := by rw [hb]; exact d3
  obtain ⟨U, hsteps, hrun, hend, hW, hsame, ce, hce, hO⟩ := X₁.ctorThrow0 hexec htr (own := own) (cls := cls) (names := names) (ic := ic) hown' hcls hnames h (fun x hx => nomatch hx) hfX hkX hcellA (by rw [hhp, hT]; exact Nat.le_refl _)
    (g := { method := m, pc := pc + 4, locals := ls, stack := .ref T.heap.size :: .ref T.heap.size :: rest, locked := none }) rfl hsize rfl rfl (rest := rest) rfl
    (by rw [hb]; exact d4) (by rw [hb]; exact d7) hout hRframes (by simp only [List.map_cons, List.sum_cons, hcat]; omega) hlocks
  obtain ⟨f1, f2⟩ := vx_frame hsame
  rw [hhp] at f1 f2
  have hWs : s.WarmedH U.vm := State.WarmedH.trans hW0 hW
  have hcl : s.vm.findClass cls = some ce.cls := by
    have h9 := hO.cls
    rw [hvm] at h9
    exact h9
  have hall : s.sameButNew ({ U with vm := s.vm } : State) locs mc ms := by
    subst hA
    obtain ⟨e1, e2⟩ := hsame
    rw [State.setFrames_setFrames] at e1
    have h2 : (T.setVm s.vm).sameButNew ({ U with vm := s.vm } : State) [] (0 + 1) (0 + 6) := ⟨e1, e2⟩
    have h3 := X.same.trans h2
    rw [List.append_nil] at h3
    exact h3.mono hc hs
  refine ⟨U, ?_, .threw T.heap.size, hrun, hend, Or.inr ⟨T.heap.size, rfl, cls, ce, locs, hx U hWs.alike f1 (fun q hq => f2 q hq (fun z hz => nomatch hz)), hce, hO.vm, hcl, hWs, hall, hf⟩⟩
  refine st1 _ ?_
  show Steps p.tables e below (T1.setTop { method := m, pc := pc + 3, locals := ls, stack := .ref T.heap.size :: rest, locked := none }) _
  jvm_step X₁.here [X₁.here.top, hexec, d3', Value.category]
  exact hsteps
/-- 'throw new E("text")': new; dup; ldc; invokespecial; athrow -/
theorem vx_throwS {cc : ByteArray} {pc : Nat} (hexec : p.tables.exec = Jvm.exec) (hb : c.code = cc) (hl : l.stackTraces = false) {own cls text : String} {names : List String} {ik is ic mc ms sa : Nat} {A : Nat → Prop}
    (hown : s.vm.findClass own = some m.cls) (hcls : Bundle.fit cls = true) (hnames : ∀ n ∈ names, Bundle.fit n = true)
    (hk : (Cond.classLink own ik cls).before args s = true) (hini : (Cond.initialized cls).before args s = true) (hstr : vk_R own is text sa s) (hat : ∀ w ∈ vx_atS own ic cls names, w.before args s = true)
    (hgood : ∀ w ∈ Cond.classLink own ik cls :: Cond.initialized cls :: vx_atS own ic cls names, vx_ot w = true)
    (hU : vx_Zq Bundle.tN "UNASSIGNED_STACK" Bundle.steD A s s.heap) (hN : vx_Zq Bundle.tN "SUPPRESSED_SENTINEL" Bundle.listD A s s.heap) (hS : va_S A s.heap H locs) (hsize : ls.size = c.maxLocals)
    (d0 : decode cc pc = .ok (.new ik, 3)) (d3 : decode cc (pc + 3) = .ok (.dup, 1)) (d4 : decode cc (pc + 4) = .ok (.ldc is, 2)) (d6 : decode cc (pc + 6) = .ok (.invokespecial ic, 3)) (d9 : decode cc (pc + 9) = .ok (.athrow, 1))
    (hout : ∀ x ∈ c.exceptionTable.toList, covers x (pc + 9) = false)
    (hRframes : names.length + 3 < R.frames) (hRlocals : (rest.map fun v => v.category).sum + (13 * (names.length + 1) + 43) ≤ R.locals) (hRcells : cells + 1 ≤ R.cells) (hRslots : slots + 6 ≤ R.slots) (hlocks : meth.locks = false)
    (hx : ∀ t : State, s.vm.Alike t.vm → H.size ≤ t.heap.size → (∀ q : Nat, q < H.size → t.heap[q]? = H[q]?) → XC cls s t)
    (hf : ∀ z ∈ locs, free z.base) (hc : cells + 1 ≤ mc) (hs : slots + 6 ≤ ms) :
    W p l e R s m args below meth c H locs cells slots (vx_MQ below Qc XC args s mc ms free) (F0 m pc ls rest) := by
  intro T hT X
  have htr : e.platform.stackTraces = false := (show e.platform.stackTraces = l.stackTraces by rw [X.admits.platform]).trans hl
  have Y := vx_rebase X (R' := { frames := R.frames, locals := R.locals, cells := 1, slots := 6 }) (Nat.le_refl _) (Nat.le_refl _) hRcells hRslots
  obtain ⟨s', hA⟩ : ∃ z, z = (T.setVm s.vm).setFrames (.invoking m args :: below) := ⟨_, rfl⟩
  rw [← hA] at Y
  have hvm : s'.vm = s.vm := by rw [hA]; rfl
  have hhp : s'.heap = H := by rw [hA]; exact hT
  have hW0 : s.WarmedH s'.vm := by rw [hvm]; exact State.WarmedH.refl s
  have hat' : ∀ w ∈ vx_atS own ic cls names, w.before args s' = true := fun w hw => vx_ot_at hW0 hvm.symm (hgood w (List.mem_cons_of_mem _ (List.mem_cons_of_mem _ hw))) (hat w hw)
  have hk' : (Cond.classLink own ik cls).before args s' = true := vx_ot_at hW0 hvm.symm (hgood _ List.mem_cons_self) hk
  have hini' : (Cond.initialized cls).before args s' = true := vx_ot_at hW0 hvm.symm (hgood _ (List.mem_cons_of_mem _ List.mem_cons_self)) hini
  have hU' : vx_Zq Bundle.tN "UNASSIGNED_STACK" Bundle.steD A s' s'.heap := by rw [hhp]; exact vx_Zq.moved hW0.alike (hU.kept hS.2.1)
  have hN' : vx_Zq Bundle.tN "SUPPRESSED_SENTINEL" Bundle.listD A s' s'.heap := by rw [hhp]; exact vx_Zq.moved hW0.alike (hN.kept hS.2.1)
  have h : ∀ w ∈ Bundle.ownAtoms own ic cls names, w.before args s' = true := vx_own hat' (vx_isRefq hU'.1) (vx_isRefq hN'.1) hU'.2.word hN'.2.word
  have hown' : s'.vm.findClass own = some m.cls := by rw [hvm]; exact hown
  have hins : (Cond.instantiable cls 6).before args s' = true := h _ (by simp [Bundle.ownAtoms])
  obtain ⟨vm₁, cX, kX, hfX, hkX, -, -, X₁, st1⟩ := Y.newCold hexec (own := own) (C := cls) (index := ik) (n := 6) hown' hk' hins hini'
    (g := F0 m pc ls rest) rfl (by rw [hb]; exact d0) (Nat.le_refl _) (Nat.le_refl _)
  generalize hT1 : (T.setVm vm₁).pushCell { cls := cX, slots := kX.instanceTypes.map defaultValue, vm := .none } = T1 at X₁ st1
  have hcat : (Value.ref T.heap.size).category = 1 := rfl
  have hcellA : T1.heap[T.heap.size]? = some (freshCell cX kX) := by rw [← hT1]; exact State.heap_pushCell_size _ _
  have d3' : decode c.code (pc + 3) = .ok (.dup, 1) := by rw [hb]; exact d3
  have d4' : decode c.code (pc + 4) = .ok (.ldc is, 2) := by rw [hb]; exact d4
  have hstr' : vk_R own is text sa s' := vk_R.warm hW0 hstr
  obtain ⟨U, hsteps, hrun, hend, hW, hsame, ce, hce, hO⟩ := X₁.ctorThrowS hexec htr (own := own) (cls := cls) (names := names) (ic := ic) hown' hcls hnames h (fun x hx => nomatch hx) hfX hkX hcellA (by rw [hhp, hT]; exact Nat.le_refl _) (msg := .ref sa) rfl
    (g := { method := m, pc := pc + 6, locals := ls, stack := .ref sa :: .ref T.heap.size :: .ref T.heap.size :: rest, locked := none }) rfl hsize rfl rfl (rest := rest) rfl
    (by rw [hb]; exact d6) (by rw [hb]; exact d9) hout hRframes (by simp only [List.map_cons, List.sum_cons, hcat]; omega) hlocks
  obtain ⟨f1, f2⟩ := vx_frame hsame
  rw [hhp] at f1 f2
  have hWs : s.WarmedH U.vm := State.WarmedH.trans hW0 hW
  have hcl : s.vm.findClass cls = some ce.cls := by
    have h9 := hO.cls
    rw [hvm] at h9
    exact h9
  have hall : s.sameButNew ({ U with vm := s.vm } : State) locs mc ms := by
    subst hA
    obtain ⟨e1, e2⟩ := hsame
    rw [State.setFrames_setFrames] at e1
    have h2 : (T.setVm s.vm).sameButNew ({ U with vm := s.vm } : State) [] (0 + 1) (0 + 6) := ⟨e1, e2⟩
    have h3 := X.same.trans h2
    rw [List.append_nil] at h3
    exact h3.mono hc hs
  refine ⟨U, ?_, .threw T.heap.size, hrun, hend, Or.inr ⟨T.heap.size, rfl, cls, ce, locs, hx U hWs.alike f1 (fun q hq => f2 q hq (fun z hz => nomatch hz)), hce, hO.vm, hcl, hWs, hall, hf⟩⟩
  refine st1 _ ?_
  show Steps p.tables e below (T1.setTop { method := m, pc := pc + 3, locals := ls, stack := .ref T.heap.size :: rest, locked := none }) _
  jvm_step X₁.here [X₁.here.top, hexec, d3', Value.category]
  exact X₁.ldcString hexec (own := own) (text := text) (index := is) (a := sa) hown' hstr'.1 hstr'.2
    (g := { method := m, pc := pc + 4, locals := ls, stack := .ref T.heap.size :: .ref T.heap.size :: rest, locked := none }) rfl d4' _ hsteps
/-- 'throw new E("text")', the text by a wide index -/
theorem vx_throwSW {cc : ByteArray} {pc : Nat} (hexec : p.tables.exec = Jvm.exec) (hb : c.code = cc) (hl : l.stackTraces = false) {own cls text : String} {names : List String} {ik is ic mc ms sa : Nat} {A : Nat → Prop}
    (hown : s.vm.findClass own = some m.cls) (hcls : Bundle.fit cls = true) (hnames : ∀ n ∈ names, Bundle.fit n = true)
    (hk : (Cond.classLink own ik cls).before args s = true) (hini : (Cond.initialized cls).before args s = true) (hstr : vk_R own is text sa s) (hat : ∀ w ∈ vx_atS own ic cls names, w.before args s = true)
    (hgood : ∀ w ∈ Cond.classLink own ik cls :: Cond.initialized cls :: vx_atS own ic cls names, vx_ot w = true)
    (hU : vx_Zq Bundle.tN "UNASSIGNED_STACK" Bundle.steD A s s.heap) (hN : vx_Zq Bundle.tN "SUPPRESSED_SENTINEL" Bundle.listD A s s.heap) (hS : va_S A s.heap H locs) (hsize : ls.size = c.maxLocals)
    (d0 : decode cc pc = .ok (.new ik, 3)) (d3 : decode cc (pc + 3) = .ok (.dup, 1)) (d4 : decode cc (pc + 4) = .ok (.ldc_w is, 3)) (d7 : decode cc (pc + 7) = .ok (.invokespecial ic, 3)) (d10 : decode cc (pc + 10) = .ok (.athrow, 1))
    (hout : ∀ x ∈ c.exceptionTable.toList, covers x (pc + 10) = false)
    (hRframes : names.length + 3 < R.frames) (hRlocals : (rest.map fun v => v.category).sum + (13 * (names.length + 1) + 43) ≤ R.locals) (hRcells : cells + 1 ≤ R.cells) (hRslots : slots + 6 ≤ R.slots) (hlocks : meth.locks = false)
    (hx : ∀ t : State, s.vm.Alike t.vm → H.size ≤ t.heap.size → (∀ q : Nat, q < H.size → t.heap[q]? = H[q]?) → XC cls s t)
    (hf : ∀ z ∈ locs, free z.base) (hc : cells + 1 ≤ mc) (hs : slots + 6 ≤ ms) :
    W p l e R s m args below meth c H locs cells slots (vx_MQ below Qc XC args s mc ms free) (F0 m pc ls rest) := by
  intro T hT X
  have htr : e.platform.stackTraces = false := (show e.platform.stackTraces = l.stackTraces by rw [X.admits.platform]).trans hl
  have Y := vx_rebase X (R' := { frames := R.frames, locals := R.locals, cells := 1, slots := 6 }) (Nat.le_refl _) (Nat.le_refl _) hRcells hRslots
  obtain ⟨s', hA⟩ : ∃ z, z = (T.setVm s.vm).setFrames (.invoking m args :: below) := ⟨_, rfl⟩
  rw [← hA] at Y
  have hvm : s'.vm = s.vm := by rw [hA]; rfl
  have hhp : s'.heap = H := by rw [hA]; exact hT
  have hW0 : s.WarmedH s'.vm := by rw [hvm]; exact State.WarmedH.refl s
  have hat' : ∀ w ∈ vx_atS own ic cls names, w.before args s' = true := fun w hw => vx_ot_at hW0 hvm.symm (hgood w (List.mem_cons_of_mem _ (List.mem_cons_of_mem _ hw))) (hat w hw)
  have hk' : (Cond.classLink own ik cls).before args s' = true := vx_ot_at hW0 hvm.symm (hgood _ List.mem_cons_self) hk
  have hini' : (Cond.initialized cls).before args s' = true := vx_ot_at hW0 hvm.symm (hgood _ (List.mem_cons_of_mem _ List.mem_cons_self)) hini
  have hU' : vx_Zq Bundle.tN "UNASSIGNED_STACK" Bundle.steD A s' s'.heap := by rw [hhp]; exact vx_Zq.moved hW0.alike (hU.kept hS.2.1)
  have hN' : vx_Zq Bundle.tN "SUPPRESSED_SENTINEL" Bundle.listD A s' s'.heap := by rw [hhp]; exact vx_Zq.moved hW0.alike (hN.kept hS.2.1)
  have h : ∀ w ∈ Bundle.ownAtoms own ic cls names, w.before args s' = true := vx_own hat' (vx_isRefq hU'.1) (vx_isRefq hN'.1) hU'.2.word hN'.2.word
  have hown' : s'.vm.findClass own = some m.cls := by rw [hvm]; exact hown
  have hins : (Cond.instantiable cls 6).before args s' = true := h _ (by simp [Bundle.ownAtoms])
  obtain ⟨vm₁, cX, kX, hfX, hkX, -, -, X₁, st1⟩ := Y.newCold hexec (own := own) (C := cls) (index := ik) (n := 6) hown' hk' hins hini'
    (g := F0 m pc ls rest) rfl (by rw [hb]; exact d0) (Nat.le_refl _) (Nat.le_refl _)
  generalize hT1 : (T.setVm vm₁).pushCell { cls := cX, slots := kX.instanceTypes.map defaultValue, vm := .none } = T1 at X₁ st1
  have hcat : (Value.ref T.heap.size).category = 1 := rfl
  have hcellA : T1.heap[T.heap.size]? = some (freshCell cX kX) := by rw [← hT1]; exact State.heap_pushCell_size _ _
  have d3' : decode c.code (pc + 3) = .ok (.dup, 1) := by rw [hb]; exact d3
  have d4' : decode c.code (pc + 4) = .ok (.ldc_w is, 3) := by rw [hb]; exact d4
  have hstr' : vk_R own is text sa s' := vk_R.warm hW0 hstr
  obtain ⟨U, hsteps, hrun, hend, hW, hsame, ce, hce, hO⟩ := X₁.ctorThrowS hexec htr (own := own) (cls := cls) (names := names) (ic := ic) hown' hcls hnames h (fun x hx => nomatch hx) hfX hkX hcellA (by rw [hhp, hT]; exact Nat.le_refl _) (msg := .ref sa) rfl
    (g := { method := m, pc := pc + 7, locals := ls, stack := .ref sa :: .ref T.heap.size :: .ref T.heap.size :: rest, locked := none }) rfl hsize rfl rfl (rest := rest) rfl
    (by rw [hb]; exact d7) (by rw [hb]; exact d10) hout hRframes (by simp only [List.map_cons, List.sum_cons, hcat]; omega) hlocks
  obtain ⟨f1, f2⟩ := vx_frame hsame
  rw [hhp] at f1 f2
  have hWs : s.WarmedH U.vm := State.WarmedH.trans hW0 hW
  have hcl : s.vm.findClass cls = some ce.cls := by
    have h9 := hO.cls
    rw [hvm] at h9
    exact h9
  have hall : s.sameButNew ({ U with vm := s.vm } : State) locs mc ms := by
    subst hA
    obtain ⟨e1, e2⟩ := hsame
    rw [State.setFrames_setFrames] at e1
    have h2 : (T.setVm s.vm).sameButNew ({ U with vm := s.vm } : State) [] (0 + 1) (0 + 6) := ⟨e1, e2⟩
    have h3 := X.same.trans h2
    rw [List.append_nil] at h3
    exact h3.mono hc hs
  refine ⟨U, ?_, .threw T.heap.size, hrun, hend, Or.inr ⟨T.heap.size, rfl, cls, ce, locs, hx U hWs.alike f1 (fun q hq => f2 q hq (fun z hz => nomatch hz)), hce, hO.vm, hcl, hWs, hall, hf⟩⟩
  refine st1 _ ?_
  show Steps p.tables e below (T1.setTop { method := m, pc := pc + 3, locals := ls, stack := .ref T.heap.size :: rest, locked := none }) _
  jvm_step X₁.here [X₁.here.top, hexec, d3', Value.category]
  exact X₁.ldcStringW hexec (own := own) (text := text) (index := is) (a := sa) hown' hstr'.1 hstr'.2
    (g := { method := m, pc := pc + 4, locals := ls, stack := .ref T.heap.size :: .ref T.heap.size :: rest, locked := none }) rfl d4' _ hsteps
end Ends
section Bodies
variable {l : Launch}
theorem vx_ofW {y : MethodName} {ws ws' : List Cond} {rm : Room} {Pc : Array Value → State → Prop} {Qc : Array Value → State → Outcome → State → Prop} {XC : String → State → State → Prop} {mc ms : Nat} {free : Addr → Prop} {cc : ByteArray} {maxL : Nat} {ret : Option FieldType}
    (hy : plainName y.cls = true) (hw : ws = Cond.code y cc maxL ret :: ws')
    (body : ∀ p e s m args below meth c s₁, BodyLoose p l y (headSpec ws rm) cc maxL ret e s m args below meth c s₁ → c.maxLocals = maxL → (∀ x ∈ c.exceptionTable.toList, False) → Pc args s →
      W p l e (headSpec ws rm).room s m args below meth c s.heap [] 0 0 (vx_MQ below Qc XC args s mc ms free) (entryFrame m args maxL)) : vx_Met l y ws rm Pc Qc XC mc ms free := by
  refine MetFree.of_bodyS (code := cc) (maxLocals := maxL) (ret := ret) hy ?_ ?_
  · intro args s m h hn
    obtain ⟨meth, c, h1, h2, h3, h4, h5, h6, -, -⟩ := Cond.code_spec hn (atoms_spec (ws := ws) h _ (by rw [hw]; exact List.mem_cons_self))
    exact ⟨meth, c, h1, h2, h3, h4, h5, h6⟩
  · intro p e s m args below meth c s₁ B hml hP _
    have hh0 : s₁.heap = s.heap := by rw [B.state]; rfl
    have ht : ∀ x ∈ c.exceptionTable.toList, False := by
      obtain ⟨meth9, c9, h1, h2, -, -, -, -, h7, -⟩ := Cond.code_spec B.named (atoms_spec (ws := ws) B.pre _ (by rw [hw]; exact List.mem_cons_self))
      cases Option.some.inj (h1.symm.trans B.method)
      cases Option.some.inj (h2.symm.trans (Stand.of_body B).code)
      intro x hx
      rw [Array.isEmpty_iff.mp h7] at hx
      cases hx
    obtain ⟨t, a1, o, b1, b2, b3⟩ := body p e s m args below meth c s₁ B hml ht hP s₁ hh0 (Stand.of_body B)
    exact ⟨t, o, a1, b1, b2, b3⟩
/-- the table of a body with handlers -/
theorem vx_table {p : Program} {x y : MethodName} {S : Spec} {cc bytes : ByteArray} {maxL maxL' : Nat} {ret ret' : Option FieldType} {e : Env} {s s₁ : State} {m : MethodId} {args : Array Value} {below : List Frame} {meth : Method} {c : Code} {hh : List (Nat × Nat × Nat × Nat)}
    (B : BodyLoose p l y S cc maxL ret e s m args below meth c s₁) (h : (Cond.codeWith y bytes maxL' ret' hh).before args s = true) : c.exceptionTable.toList = tableOf hh := by
  obtain ⟨m9, meth9, c9, hn9, h1, h2, -, -, h6, -⟩ := Cond.codeWith_spec h
  cases Option.some.inj (hn9.symm.trans B.named)
  cases Option.some.inj (h1.symm.trans B.method)
  cases Option.some.inj (h2.symm.trans (Stand.of_body B).code)
  rw [← h6, table_eq]
end Bodies
end VXA
/-! ===== END ===== -/
/-! ===== BEGIN a static call of a method with an exception table ===== -/
section VXS
variable {p : Program} {l : Launch} {e : Env} {R : Room} {s : State} {m : MethodId} {args : Array Value} {below : List Frame} {meth : Method} {c : Code} {T : State} {H : Heap} {locs : List Loc} {cells slots : Nat}
abbrev vx_CSW (R : Room) (s : State) (args : Array Value) (own : String) (index : Nat) (y : MethodName) (bytes : ByteArray) (maxL : Nat) (ret : Option FieldType) (hh : List (Nat × Nat × Nat × Nat)) (ws : List Cond) (rm : Room) (mc ms n : Nat) : Prop :=
  (rm.cells = mc ∧ rm.slots = ms ∧ rm.frames + 1 ≤ R.frames ∧ 8 + (maxL + 11) + rm.locals ≤ R.locals ∧ (∀ w ∈ ws, ∀ (a' : Array Value) (U : State), s.WarmedH U.vm → w.before a' U = true) ∧ Cond.codeWith y bytes maxL ret hh ∈ ws) ∧
  (Cond.codeWith y bytes maxL ret hh).before args s = true ∧ (Cond.initialized y.cls).before args s = true ∧ (y.cls ≠ "java/lang/invoke/MethodHandle" ∧ y.cls ≠ "java/lang/invoke/VarHandle") ∧
  (∀ sig, parseMethodDescriptor y.desc = some sig → n = sig.parameters.length) ∧ (Cond.methodLink own index y).before args s = true ∧ (Cond.static y).before args s = true
theorem vx_cwSW {own : String} {index maxL mc ms : Nat} {y : MethodName} {bytes : ByteArray} {ret : Option FieldType} {hh : List (Nat × Nat × Nat × Nat)} {Ts ws ws' : List Cond} {rm : Room} (n : Nat) (ht : ∀ w ∈ Ts, w.before args s = true) (hT : GoodIn Ts (va_wsS own index y ws)) (hw : ws = Cond.codeWith y bytes maxL ret hh :: ws') (hrc : rm.cells = mc) (hrs : rm.slots = ms)
    (hd : y.cls ≠ "java/lang/invoke/MethodHandle" ∧ y.cls ≠ "java/lang/invoke/VarHandle" ∧ (parseMethodDescriptor y.desc).map (fun d => d.parameters.length) = some n) (hR : rm.frames + 1 ≤ R.frames ∧ 8 + (maxL + 11) + rm.locals ≤ R.locals) :
    vx_CSW R s args own index y bytes maxL ret hh ws rm mc ms n := by
  have ok : ∀ w ∈ va_wsS own index y ws, w.before args s = true := fun w h => ht w (hT w h).1
  have hG : GoodIn Ts ws := fun w h => hT w (by unfold va_wsS; exact List.mem_append_right _ h)
  have hc : Cond.codeWith y bytes maxL ret hh ∈ ws := by rw [hw]; exact List.mem_cons_self
  refine ⟨⟨hrc, hrs, hR.1, hR.2, pay_in ht hG, hc⟩, ht _ (hG _ hc).1, ok _ (by simp [va_wsS]), ⟨hd.1, hd.2.1⟩, fun sig h => ?_, ok _ (by simp [va_wsS]), ok _ (by simp [va_wsS])⟩
  have h2 := hd.2.2
  rw [h] at h2
  exact (Option.some.inj h2).symm
theorem vx_callSW (X : Stand p l e R s m args below meth c T locs cells slots) (hexec : p.tables.exec = Jvm.exec) {own : String} {index : Nat} {y : MethodName} {bytes : ByteArray} {maxL : Nat} {ret : Option FieldType} {hh : List (Nat × Nat × Nat × Nat)}
    (hown : s.vm.findClass own = some m.cls) (hlink : (Cond.methodLink own index y).before args s = true) (hstat : (Cond.static y).before args s = true) (hinit : (Cond.initialized y.cls).before args s = true)
    (hcode : (Cond.codeWith y bytes maxL ret hh).before args s = true) (hy : y.cls ≠ "java/lang/invoke/MethodHandle" ∧ y.cls ≠ "java/lang/invoke/VarHandle")
    {W9 : Nat} {Pre : Pt → Array Value → Prop} {Post : Pt → Array Value → Option Value → Pt → Prop} (hK : Back l R p e below s args y 3 W9 Pre Post)
    {g : JFrame} (hg : g.method = m) (hsize : g.locals.size = c.maxLocals) {argsL rest : List Value} (hlen : ∀ sig, parseMethodDescriptor y.desc = some sig → argsL.length = sig.parameters.length)
    (hstack : g.stack = argsL.reverse ++ rest) (hW : 2 * g.monitorRoom + (rest.map fun v => v.category).sum ≤ W9) (hdg : decode c.code g.pc = .ok (.invokestatic index, 3))
    (hpre : ∀ vm₁, s.WarmedH vm₁ → Pre ⟨T.setVm vm₁, locs, cells, slots⟩ argsL.toArray) :
    ∃ (v : Option Value) (vm₁ : Vm) (B : Pt), s.WarmedH vm₁ ∧ Stand p l e R s m args below meth c B.U B.locs B.cells B.slots ∧ Post ⟨T.setVm vm₁, locs, cells, slots⟩ argsL.toArray v B ∧
      ∀ target, Steps p.tables e below (B.U.setTop { g with pc := g.pc + 3, stack := v.toList ++ rest }) target → Steps p.tables e below (T.setTop g) target := by
  obtain ⟨mk, methM, cM, hnamed, hmethM, -, -, -, -, -, -, hsigM⟩ := Cond.codeWith_spec hcode
  have hstatic : methM.isStatic = true := Cond.static_spec hnamed hmethM hstat
  obtain ⟨kP, hkP, -⟩ := className_of_methodNamed hnamed
  have hinitP : kP.init = .initialized := Cond.initialized_spec (findClass_of_methodNamed hnamed) hkP hinit
  obtain ⟨vm₁, X₁, hstep₁⟩ := X.invokestatic hexec hown hlink hnamed hmethM hstatic hkP hinitP hy (g := g) hg (argsL := argsL) (rest := rest) (hlen _ hsigM) hstack hdg
  obtain ⟨v, B, X', hpost, hsteps⟩ := hK m meth c ⟨T.setVm vm₁, locs, cells, slots⟩ { g with stack := rest } (.invokestatic index) mk argsL.toArray X₁ hg hsize hdg hW (X₁.named hnamed) (hpre vm₁ X₁.warmed)
  exact ⟨v, vm₁, B, X₁.warmed, X', hpost, fun target h => hstep₁ _ fun acts => by rw [doInvoke_state]; exact hsteps.trans h⟩
theorem vx_runSW {y : MethodName} {bytes cc : ByteArray} {maxL nL mc ms n index : Nat} {ret : Option FieldType} {hh : List (Nat × Nat × Nat × Nat)} {ws : List Cond} {rm : Room} {Pc : Array Value → State → Prop} {Qc : Array Value → State → Outcome → State → Prop} {free : Addr → Prop} {Ts : List Cond} {own : String} {As rest : List Value} {g : JFrame}
    (S : CallFix p m c cc nL s args Ts own) (hM : Met l y ws rm Pc Qc mc ms free) (cw : vx_CSW R s args own index y bytes maxL ret hh ws rm mc ms n) (hp : PreS s H Pc As)
    (hg : g.method = m) (hn : As.length = n) (hsize : g.locals.size = nL) (hstack : g.stack = As.reverse ++ rest) (hW : 2 * g.monitorRoom + (rest.map fun v => v.category).sum ≤ 8) (hdg : decode cc g.pc = .ok (.invokestatic index, 3)) (hf : cells + mc ≤ R.cells ∧ slots + ms ≤ R.slots) :
    va_Run p l e R s m args below meth c H locs cells slots mc ms g rest (Qc As.toArray) (free) := by
  obtain ⟨⟨hrc, hrs, hfr, hlo, hws, hcw⟩, hcode, hini, hy, hlen, hl, hstt⟩ := cw
  have hK : Back l R p e below s args y 3 8 (PreOf R mc ms Pc) (PostOf Qc mc ms free) := va_backW (hh := hh) (bytes := bytes) (maxL := maxL) (ret := ret) hM hp.1 hrc hrs hfr hlo hws hcw (fun a' U hW => word_at hW (Or.inl (by first | rfl | simp [Cond.onTables, Cond.keeps, Cond.steady])) hini)
  obtain ⟨hx, hb, hml, ho, -⟩ := S
  intro T hT X
  obtain ⟨v, vm₁, ⟨U', l2, c2, s2⟩, hW₁, X', ⟨g', mk, t, L, e1, e2, hq, h1, hL, h2, h3⟩, st⟩ := vx_callSW X hx (hh := hh) (bytes := bytes) (maxL := maxL) (ret := ret) ho hl hstt hini hcode hy hK hg (hsize.trans hml.symm) (argsL := As) (rest := rest) (fun sig h => hn.trans (hlen sig h)) hstack hW (by rw [hb]; exact hdg)
    (fun vm₁ hW₁ => ⟨hf.1, hf.2, hp.2 (T.setVm vm₁) hT hW₁⟩)
  dsimp only [Pt.U, Pt.locs, Pt.cells, Pt.slots] at X' e1 e2 h1 h2 h3 st
  subst h1; subst h2; subst h3
  exact ⟨v, (T.setVm vm₁).calling g' mk As.toArray, t, U', L, hT, X', hL, e1, e2, hq, st⟩
/-- not caught here, past rows that name other classes: it goes on to the caller -/
theorem vx_outP {p : Program} {l : Launch} {e : Env} {R : Room} {s : State} {m : MethodId} {args : Array Value} {below : List Frame} {meth : Method} {c : Code} {H : Heap} {locs : List Loc} {cells slots : Nat} {free : Addr → Prop} {ls : Array Slot} {rest : List Value} {Qc : Array Value → State → Outcome → State → Prop} {XC : String → State → State → Prop}
    {pc : Nat} {own E : String} {ce : Cell} {q : Addr} {mc ms : Nat} (hown : s.vm.findClass own = some m.cls) (hlocks : meth.locks = false)
    (hpass : ∀ z ∈ c.exceptionTable.toList, covers z pc = false ∨ (z.catchType ≠ 0 ∧ ∃ nm : String, (Cond.classLink own z.catchType nm).before args s = true ∧ va_Nc E nm s)) (hcell : H[q]? = some ce) (hv : ce.vm = .none) (hcl : s.vm.findClass E = some ce.cls)
    (hx : ∀ t : State, t.heap = H → s.vm.Alike t.vm → XC E s t) (hf : ∀ z ∈ locs, free z.base) (hc : cells ≤ mc) (hs : slots ≤ ms) :
    vx_W p l e R s m args below meth c H locs cells slots (vx_MQ below Qc XC args s mc ms free) (F0 m pc ls rest) q := by
  intro T hT X
  have hpl : e.platform.magicAccessors = ({} : Platform).magicAccessors := by rw [X.admits.platform]
  obtain ⟨vm', hW', X', st⟩ := X.outThrough hlocks q (g := F0 m pc ls rest) rfl rfl rfl (cell := ce) (by rw [hT]; exact hcell) (by rw [hv]; rfl)
    (by obtain ⟨k9, h9, -⟩ := Vm.findClass_spec hcl; exact ⟨k9, h9⟩) (fun z hz => by
      rcases hpass z hz with h | ⟨hz0, nm, hl1, hn1⟩
      · exact Or.inl h
      · obtain ⟨c6, hc6, hcl6⟩ := Cond.classLink_spec hown hl1 e.platform hpl
        obtain ⟨a8, b8, h1, h2, h3⟩ := hn1
        cases Option.some.inj (h1.symm.trans hcl)
        cases Option.some.inj (h2.symm.trans hc6)
        exact Or.inr ⟨hz0, _, hcl6, h3⟩)
  obtain ⟨g₀, hfr⟩ := X'.frames_eq
  have hcell9 : ((T.setVm vm').setFrames (.throwing q :: below)).heap[q]? = some ce := by
    show T.heap[q]? = some ce
    rw [hT]; exact hcell
  have hend : Ended ((T.setVm vm').setFrames (.throwing q :: below)) below (.threw q) := State.frames_setFrames _ (State.cur_lt_of_frames hfr)
  refine ⟨(T.setVm vm').setFrames (.throwing q :: below), ?_, .threw q, X'.here.running, hend, Or.inr ⟨q, rfl, E, ce, locs, hx _ hT (X'.ends _).1.alike, hcell9, hv, hcl, (X'.ends _).1, (X'.ends _).2.mono hc hs, hf⟩⟩
  rw [X.pushThrowing_eq]
  exact st
/-- a thing of a world lies in the heap -/
theorem vx_lt {D : va_G} {cl : List vw_C} {ws : va_W} {H1 : Heap} (h : va_P D cl ws H1) {k : Nat} {q : Nat × va_E} (hk : ws[k]? = some q) : q.1 < H1.size := (h k q hk).lt
end VXS
/-! ===== END ===== -/
/-! ===== BEGIN methods with a table of their own: called by a name, returning or throwing ===== -/
section VXH
/-! vx_backW, vx_callVX, vx_callSX, vx_callVW, vx_runVW, vx_runVX, vx_runSX, vx_ofWH follow the same proofs as their sisters above (Free/Laws.lean, Shelf42/LK1.lean); vx_outP calls Shelf42/NT130.lean (outThrough). -/
section
variable {l : Launch} {R : Room} {p : Program} {e : Env} {below : List Frame} {s : State} {sargs : Array Value} {y : MethodName} {len W9 : Nat}
theorem vx_backW {ws : List Cond} {rm : Room} {Pc : Array Value → State → Prop} {Qc : Array Value → State → Outcome → State → Prop} {XC : String → State → State → Prop} {mc ms : Nat} {free : Addr → Prop} {bytes : ByteArray} {maxL : Nat} {ret : Option FieldType} {hh : List (Nat × Nat × Nat × Nat)}
    (hM : vx_Met l y ws rm Pc Qc XC mc ms free) (hblind : FrameBlind Pc) (hrc : rm.cells = mc) (hrs : rm.slots = ms)
    (hframes : rm.frames + 1 ≤ R.frames) (hlocals : W9 + (maxL + 11) + rm.locals ≤ R.locals)
    (hws : ∀ w ∈ ws, ∀ a' U, s.WarmedH U.vm → w.before a' U = true) (hcode : Cond.codeWith y bytes maxL ret hh ∈ ws) (hinit : ∀ a' U, s.WarmedH U.vm → (Cond.initialized y.cls).before a' U = true) :
    vx_Back l R p e below s sargs y len W9 (PreOf R mc ms Pc) (PostOf Qc mc ms free) (vx_Post XC mc ms free) := by
  intro m meth c A g ig mk a X hg hsize hdg hW hn hp
  have h1 : (headSpec ws rm).pre.before a A.U = true := atoms_intro fun w hw => hws w hw _ _ X.warmed
  have h2 : (Cond.codeWith y bytes maxL ret hh).before a A.U = true := hws _ hcode _ _ X.warmed
  have h3 : (Cond.initialized y.cls).before a A.U = true := hinit _ _ X.warmed
  have h4 : A.cells + (headSpec ws rm).room.cells ≤ R.cells := by rw [show (headSpec ws rm).room.cells = mc from hrc]; exact hp.1
  have h5 : A.slots + (headSpec ws rm).room.slots ≤ R.slots := by rw [show (headSpec ws rm).room.slots = ms from hrs]; exact hp.2.1
  have hPc : Pc a (A.U.calling g mk a) := hblind _ _ _ _ hp.2.2
  obtain ⟨U, Ls, c0, s0⟩ := A
  dsimp only [Pt.U, Pt.locs, Pt.cells, Pt.slots] at h1 h2 h3 h4 h5 X hn hPc ⊢
  obtain ⟨m9, methY, cY, hn9, hmY, hcY, -, hlY, -⟩ := Cond.codeWith_spec h2
  cases Option.some.inj (hn9.symm.trans hn)
  obtain ⟨kY, hkY, -⟩ := className_of_methodNamed hn
  have hinitY : kY.init = .initialized := Cond.initialized_spec (findClass_of_methodNamed hn) hkY h3
  have h : At U g.method c below := by rw [hg]; exact X.here
  have hlocals9 : W9 + (maxL + 11) + (headSpec ws rm).room.locals ≤ R.locals := hlocals
  have happ : (headSpec ws rm).appliesLoose y e.platform (U.calling g mk a) = true :=
    Spec.appliesLoose_calling (g := g) h hdg hn hkY hinitY
      (X.room_calling (g := g) (R' := (headSpec ws rm).room) hsize hmY hcY hframes (by rw [hlY]; omega) h4 h5) h1
  obtain ⟨mid, hmid⟩ := h.above
  have hfr : (U.setTop g).frames = (.java g :: mid) ++ below := by rw [State.frames_setTop' g h.top, hmid]; rfl
  obtain ⟨o, s₂, hsteps, -, hend, hq⟩ := Steps.callFree hM p X.admits X.cas X.clock (acts := []) hfr happ hPc trivial
  have hq' : vx_Q Qc XC mc ms free a (U.calling g mk a) o s₂ := hq
  rw [State.frames_setTop' g h.top] at hend
  obtain ⟨g₀, hg0⟩ := Option.isSome_iff_exists.mp h.top
  obtain ⟨r, hr⟩ := State.topJava?_eq_some.mp hg0
  have hr' : (({ U with heap := s₂.heap, slotsUsed := s₂.slotsUsed } : State).setVm s₂.vm).frames = .java g₀ :: r := hr
  rcases hq' with ⟨hqc, L, hfe, hL⟩ | ⟨q, rfl, E, ce, L, hx, hce, hcv, hcl, hW₂, hsm, hL⟩
  · obtain ⟨⟨v, rfl⟩, hW₂, e2, q2, q3, q4, q5, q6⟩ := id hfe
    have e3 : s₂ = ({ (U.calling g mk a).setFrames s₂.frames with heap := s₂.heap, slotsUsed := s₂.slotsUsed } : State).setVm s₂.vm := by
      have : s₂ = ({ s₂ with vm := (U.calling g mk a).vm } : State).setVm s₂.vm := rfl
      rw [e2] at this
      exact this
    obtain ⟨c₂, i₂, len₂, hc₂, hd₂, hf₂⟩ := hend
    have hW' : U.WarmedH s₂.vm := hW₂
    have hcc : c₂ = c := by
      have h1 : s₂.code? g.method = U.code? g.method := by
        rw [State.code?_eq, State.code?_eq, hW'.alike.method?]
      exact Option.some.inj (hc₂.symm.trans (h1.trans h.code))
    subst hcc
    have hlen : len₂ = len := by rw [hdg] at hd₂; cases hd₂; rfl
    subst hlen
    have hs₂ : s₂ = (({ U with heap := s₂.heap, slotsUsed := s₂.slotsUsed } : State).setVm s₂.vm).setTop { g with pc := g.pc + len₂, stack := v.toList ++ g.stack } := by
      refine e3.trans ?_
      rw [hf₂, State.calling_eq h.top, State.setFrames_setFrames, State.setTop_of_frames _ hr', hr]
      rfl
    have hsame : U.sameButNew ({ U with heap := s₂.heap, slotsUsed := s₂.slotsUsed } : State) L mc ms := by
      refine ⟨?_, q2, q3, q4, q5, q6⟩
      obtain ⟨t, ht, -⟩ := State.frames_cons hr
      show ({ U with heap := s₂.heap, slotsUsed := s₂.slotsUsed } : State) = { U.setFrames U.frames with heap := s₂.heap, slotsUsed := s₂.slotsUsed }
      rw [State.setFrames_self ht]
    subst hg
    refine Or.inl ⟨v, ⟨(({ U with heap := s₂.heap, slotsUsed := s₂.slotsUsed } : State).setVm s₂.vm), Ls ++ L, c0 + mc, s0 + ms⟩,
      ⟨X.admits, X.cas, X.clock, X.frames, X.room, X.hears, X.method, X.code, (X.here.setHeapUsed s₂.heap s₂.slotsUsed).setVm hW'.alike, X.tail, State.WarmedH.trans X.warmed hW', X.limits, X.bytes, X.same.trans (hsame.setVm s.vm)⟩,
      ⟨g, mk, s₂, L, rfl, rfl, hqc, rfl, hL, rfl, rfl⟩, ?_⟩
    show Steps p.tables e below _ ((({ U with heap := s₂.heap, slotsUsed := s₂.slotsUsed } : State).setVm s₂.vm).setTop { g with pc := g.pc + len₂, stack := v.toList ++ g.stack })
    rw [← hs₂]
    exact hsteps
  · obtain ⟨e2, q2, q3, q4, q5, q6⟩ := id hsm
    have e3 : s₂ = ({ (U.calling g mk a).setFrames s₂.frames with heap := s₂.heap, slotsUsed := s₂.slotsUsed } : State).setVm s₂.vm := by
      have : s₂ = ({ s₂ with vm := (U.calling g mk a).vm } : State).setVm s₂.vm := rfl
      rw [e2] at this
      exact this
    have hf₂ : s₂.frames = .throwing q :: .java g :: U.frames.tail := hend
    have hW' : U.WarmedH s₂.vm := hW₂
    have hs₂ : s₂ = ((({ U with heap := s₂.heap, slotsUsed := s₂.slotsUsed } : State).setVm s₂.vm).setTop g).pushFrame (.throwing q) := by
      refine e3.trans ?_
      rw [hf₂, State.calling_eq h.top, State.setFrames_setFrames, State.pushFrame, State.frames_setTop _ hr', State.setTop_of_frames _ hr', State.setFrames_setFrames, hr]
      rfl
    have hsame : U.sameButNew ({ U with heap := s₂.heap, slotsUsed := s₂.slotsUsed } : State) L mc ms := by
      refine ⟨?_, q2, q3, q4, q5, q6⟩
      obtain ⟨t, ht, -⟩ := State.frames_cons hr
      show ({ U with heap := s₂.heap, slotsUsed := s₂.slotsUsed } : State) = { U.setFrames U.frames with heap := s₂.heap, slotsUsed := s₂.slotsUsed }
      rw [State.setFrames_self ht]
    subst hg
    refine Or.inr ⟨q, ⟨(({ U with heap := s₂.heap, slotsUsed := s₂.slotsUsed } : State).setVm s₂.vm), Ls ++ L, c0 + mc, s0 + ms⟩,
      ⟨X.admits, X.cas, X.clock, X.frames, X.room, X.hears, X.method, X.code, (X.here.setHeapUsed s₂.heap s₂.slotsUsed).setVm hW'.alike, X.tail, State.WarmedH.trans X.warmed hW', X.limits, X.bytes, X.same.trans (hsame.setVm s.vm)⟩,
      ⟨g, mk, s₂, L, E, ce, rfl, rfl, hx, hce, hcv, hcl, rfl, hL, rfl, rfl⟩, ?_⟩
    show Steps p.tables e below _ (((({ U with heap := s₂.heap, slotsUsed := s₂.slotsUsed } : State).setVm s₂.vm).setTop g).pushFrame (.throwing q))
    rw [← hs₂]
    exact hsteps
end
variable {p : Program} {l : Launch} {e : Env} {R : Room} {s : State} {m : MethodId} {args : Array Value} {below : List Frame} {meth : Method} {c : Code} {T : State} {H : Heap} {locs : List Loc} {cells slots : Nat}
theorem vx_callVX (X : Stand p l e R s m args below meth c T locs cells slots) (hexec : p.tables.exec = Jvm.exec) {own C : String} {index : Nat} {y : MethodName} {bytes : ByteArray} {maxL : Nat} {ret : Option FieldType} {hh : List (Nat × Nat × Nat × Nat)}
    (hown : s.vm.findClass own = some m.cls) (hlink : (Cond.methodLink own index y).before args s = true) (hinst : (Cond.instanceMethod y).before args s = true) (hsel : (Cond.selects C y y).before args s = true)
    (hcode : (Cond.codeWith y bytes maxL ret hh).before args s = true) (hy : y.cls ≠ "java/lang/invoke/MethodHandle" ∧ y.cls ≠ "java/lang/invoke/VarHandle")
    {W9 : Nat} {Pre : Pt → Array Value → Prop} {Post : Pt → Array Value → Option Value → Pt → Prop} {PostX : Pt → Array Value → Addr → Pt → Prop} (hK : vx_Back l R p e below s args y 3 W9 Pre Post PostX)
    {b : Addr} {cellB : Cell} (hcell : T.heap[b]? = some cellB) (hobj : cellB.vm.isStatics = false) (hcls : s.vm.findClass C = some cellB.cls)
    {g : JFrame} (hg : g.method = m) (hsize : g.locals.size = c.maxLocals) {argsL rest : List Value} (hlen : ∀ sig, parseMethodDescriptor y.desc = some sig → argsL.length = sig.parameters.length)
    (hstack : g.stack = argsL.reverse ++ .ref b :: rest) (hW : 2 * g.monitorRoom + (rest.map fun v => v.category).sum ≤ W9) (hdg : decode c.code g.pc = .ok (.invokevirtual index, 3))
    (hpre : ∀ vm₁, s.WarmedH vm₁ → Pre ⟨T.setVm vm₁, locs, cells, slots⟩ (Value.ref b :: argsL).toArray) :
    (∃ (v : Option Value) (vm₁ : Vm) (B : Pt), s.WarmedH vm₁ ∧ Stand p l e R s m args below meth c B.U B.locs B.cells B.slots ∧ Post ⟨T.setVm vm₁, locs, cells, slots⟩ (Value.ref b :: argsL).toArray v B ∧
      ∀ target, Steps p.tables e below (B.U.setTop { g with pc := g.pc + 3, stack := v.toList ++ rest }) target → Steps p.tables e below (T.setTop g) target) ∨
    (∃ (q : Addr) (vm₁ : Vm) (B : Pt), s.WarmedH vm₁ ∧ Stand p l e R s m args below meth c B.U B.locs B.cells B.slots ∧ PostX ⟨T.setVm vm₁, locs, cells, slots⟩ (Value.ref b :: argsL).toArray q B ∧
      Steps p.tables e below (T.setTop g) ((B.U.setTop { g with stack := rest }).pushFrame (.throwing q))) := by
  obtain ⟨mk, methM, hnamed, hmethM, hstM, habM⟩ := Cond.instanceMethod_spec hinst
  obtain ⟨m8, methM', cM, hn8, hmethM', -, -, -, -, -, -, hsigM⟩ := Cond.codeWith_spec hcode
  cases Option.some.inj (hn8.symm.trans hnamed)
  cases hmethM.symm.trans hmethM'
  obtain ⟨c2, r2, m2, q1, q2, q3, q4, kP, hkP, hkPi⟩ := Cond.selects_spec hsel
  cases hcls.symm.trans q1
  cases (State.methodFound?_of_named hnamed hy).symm.trans q2
  cases hnamed.symm.trans q3
  have hselP : selectMethod e.platform s.vm cellB.cls mk = .method mk := by rw [Launch.admits_selectMethod X.admits]; exact q4
  obtain ⟨vm₁, X₁, hstep₁⟩ := X.invokevirtual hexec hown hlink hnamed hmethM hstM hkP hkPi hy (a := b) (cell := cellB) hcell
    (fun z h => by rw [h] at hobj; cases hobj) hselP hmethM habM hkP hkPi (g := g) hg (argsL := argsL) (rest := rest) (hlen _ hsigM) hstack hdg
  rcases hK m meth c ⟨T.setVm vm₁, locs, cells, slots⟩ { g with stack := rest } (.invokevirtual index) mk (Value.ref b :: argsL).toArray X₁ hg hsize hdg hW (X₁.named hnamed) (hpre vm₁ X₁.warmed) with ⟨v, B, X', hpost, hsteps⟩ | ⟨q, B, X', hpost, hsteps⟩
  · exact Or.inl ⟨v, vm₁, B, X₁.warmed, X', hpost, fun target h => hstep₁ _ fun acts => by rw [doInvoke_state]; exact hsteps.trans h⟩
  · exact Or.inr ⟨q, vm₁, B, X₁.warmed, X', hpost, hstep₁ _ fun acts => by rw [doInvoke_state]; exact hsteps⟩
theorem vx_callSX (X : Stand p l e R s m args below meth c T locs cells slots) (hexec : p.tables.exec = Jvm.exec) {own : String} {index : Nat} {y : MethodName} {bytes : ByteArray} {maxL : Nat} {ret : Option FieldType} {hh : List (Nat × Nat × Nat × Nat)}
    (hown : s.vm.findClass own = some m.cls) (hlink : (Cond.methodLink own index y).before args s = true) (hstat : (Cond.static y).before args s = true) (hinit : (Cond.initialized y.cls).before args s = true)
    (hcode : (Cond.codeWith y bytes maxL ret hh).before args s = true) (hy : y.cls ≠ "java/lang/invoke/MethodHandle" ∧ y.cls ≠ "java/lang/invoke/VarHandle")
    {W9 : Nat} {Pre : Pt → Array Value → Prop} {Post : Pt → Array Value → Option Value → Pt → Prop} {PostX : Pt → Array Value → Addr → Pt → Prop} (hK : vx_Back l R p e below s args y 3 W9 Pre Post PostX)
    {g : JFrame} (hg : g.method = m) (hsize : g.locals.size = c.maxLocals) {argsL rest : List Value} (hlen : ∀ sig, parseMethodDescriptor y.desc = some sig → argsL.length = sig.parameters.length)
    (hstack : g.stack = argsL.reverse ++ rest) (hW : 2 * g.monitorRoom + (rest.map fun v => v.category).sum ≤ W9) (hdg : decode c.code g.pc = .ok (.invokestatic index, 3))
    (hpre : ∀ vm₁, s.WarmedH vm₁ → Pre ⟨T.setVm vm₁, locs, cells, slots⟩ argsL.toArray) :
    (∃ (v : Option Value) (vm₁ : Vm) (B : Pt), s.WarmedH vm₁ ∧ Stand p l e R s m args below meth c B.U B.locs B.cells B.slots ∧ Post ⟨T.setVm vm₁, locs, cells, slots⟩ argsL.toArray v B ∧
      ∀ target, Steps p.tables e below (B.U.setTop { g with pc := g.pc + 3, stack := v.toList ++ rest }) target → Steps p.tables e below (T.setTop g) target) ∨
    (∃ (q : Addr) (vm₁ : Vm) (B : Pt), s.WarmedH vm₁ ∧ Stand p l e R s m args below meth c B.U B.locs B.cells B.slots ∧ PostX ⟨T.setVm vm₁, locs, cells, slots⟩ argsL.toArray q B ∧
      Steps p.tables e below (T.setTop g) ((B.U.setTop { g with stack := rest }).pushFrame (.throwing q))) := by
  obtain ⟨mk, methM, cM, hnamed, hmethM, -, -, -, -, -, -, hsigM⟩ := Cond.codeWith_spec hcode
  have hstatic : methM.isStatic = true := Cond.static_spec hnamed hmethM hstat
  obtain ⟨kP, hkP, -⟩ := className_of_methodNamed hnamed
  have hinitP : kP.init = .initialized := Cond.initialized_spec (findClass_of_methodNamed hnamed) hkP hinit
  obtain ⟨vm₁, X₁, hstep₁⟩ := X.invokestatic hexec hown hlink hnamed hmethM hstatic hkP hinitP hy (g := g) hg (argsL := argsL) (rest := rest) (hlen _ hsigM) hstack hdg
  rcases hK m meth c ⟨T.setVm vm₁, locs, cells, slots⟩ { g with stack := rest } (.invokestatic index) mk argsL.toArray X₁ hg hsize hdg hW (X₁.named hnamed) (hpre vm₁ X₁.warmed) with ⟨v, B, X', hpost, hsteps⟩ | ⟨q, B, X', hpost, hsteps⟩
  · exact Or.inl ⟨v, vm₁, B, X₁.warmed, X', hpost, fun target h => hstep₁ _ fun acts => by rw [doInvoke_state]; exact hsteps.trans h⟩
  · exact Or.inr ⟨q, vm₁, B, X₁.warmed, X', hpost, hstep₁ _ fun acts => by rw [doInvoke_state]; exact hsteps⟩
theorem vx_callVW (X : Stand p l e R s m args below meth c T locs cells slots) (hexec : p.tables.exec = Jvm.exec) {own C : String} {index : Nat} {y : MethodName} {bytes : ByteArray} {maxL : Nat} {ret : Option FieldType} {hh : List (Nat × Nat × Nat × Nat)}
    (hown : s.vm.findClass own = some m.cls) (hlink : (Cond.methodLink own index y).before args s = true) (hinst : (Cond.instanceMethod y).before args s = true) (hsel : (Cond.selects C y y).before args s = true)
    (hcode : (Cond.codeWith y bytes maxL ret hh).before args s = true) (hy : y.cls ≠ "java/lang/invoke/MethodHandle" ∧ y.cls ≠ "java/lang/invoke/VarHandle")
    {W9 : Nat} {Pre : Pt → Array Value → Prop} {Post : Pt → Array Value → Option Value → Pt → Prop} (hK : Back l R p e below s args y 3 W9 Pre Post)
    {b : Addr} {cellB : Cell} (hcell : T.heap[b]? = some cellB) (hobj : cellB.vm.isStatics = false) (hcls : s.vm.findClass C = some cellB.cls)
    {g : JFrame} (hg : g.method = m) (hsize : g.locals.size = c.maxLocals) {argsL rest : List Value} (hlen : ∀ sig, parseMethodDescriptor y.desc = some sig → argsL.length = sig.parameters.length)
    (hstack : g.stack = argsL.reverse ++ .ref b :: rest) (hW : 2 * g.monitorRoom + (rest.map fun v => v.category).sum ≤ W9) (hdg : decode c.code g.pc = .ok (.invokevirtual index, 3))
    (hpre : ∀ vm₁, s.WarmedH vm₁ → Pre ⟨T.setVm vm₁, locs, cells, slots⟩ (Value.ref b :: argsL).toArray) :
    ∃ (v : Option Value) (vm₁ : Vm) (B : Pt), s.WarmedH vm₁ ∧ Stand p l e R s m args below meth c B.U B.locs B.cells B.slots ∧ Post ⟨T.setVm vm₁, locs, cells, slots⟩ (Value.ref b :: argsL).toArray v B ∧
      ∀ target, Steps p.tables e below (B.U.setTop { g with pc := g.pc + 3, stack := v.toList ++ rest }) target → Steps p.tables e below (T.setTop g) target := by
  obtain ⟨mk, methM, hnamed, hmethM, hstM, habM⟩ := Cond.instanceMethod_spec hinst
  obtain ⟨m8, methM', cM, hn8, hmethM', -, -, -, -, -, -, hsigM⟩ := Cond.codeWith_spec hcode
  cases Option.some.inj (hn8.symm.trans hnamed)
  cases hmethM.symm.trans hmethM'
  obtain ⟨c2, r2, m2, q1, q2, q3, q4, kP, hkP, hkPi⟩ := Cond.selects_spec hsel
  cases hcls.symm.trans q1
  cases (State.methodFound?_of_named hnamed hy).symm.trans q2
  cases hnamed.symm.trans q3
  have hselP : selectMethod e.platform s.vm cellB.cls mk = .method mk := by rw [Launch.admits_selectMethod X.admits]; exact q4
  obtain ⟨vm₁, X₁, hstep₁⟩ := X.invokevirtual hexec hown hlink hnamed hmethM hstM hkP hkPi hy (a := b) (cell := cellB) hcell
    (fun z h => by rw [h] at hobj; cases hobj) hselP hmethM habM hkP hkPi (g := g) hg (argsL := argsL) (rest := rest) (hlen _ hsigM) hstack hdg
  obtain ⟨v, B, X', hpost, hsteps⟩ := hK m meth c ⟨T.setVm vm₁, locs, cells, slots⟩ { g with stack := rest } (.invokevirtual index) mk (Value.ref b :: argsL).toArray X₁ hg hsize hdg hW (X₁.named hnamed) (hpre vm₁ X₁.warmed)
  exact ⟨v, vm₁, B, X₁.warmed, X', hpost, fun target h => hstep₁ _ fun acts => by rw [doInvoke_state]; exact hsteps.trans h⟩
abbrev vx_CVW (R : Room) (s : State) (args : Array Value) (own C : String) (index : Nat) (y : MethodName) (bytes : ByteArray) (maxL : Nat) (ret : Option FieldType) (hh : List (Nat × Nat × Nat × Nat)) (ws : List Cond) (rm : Room) (mc ms n : Nat) : Prop :=
  (rm.cells = mc ∧ rm.slots = ms ∧ rm.frames + 1 ≤ R.frames ∧ 8 + (maxL + 11) + rm.locals ≤ R.locals ∧ (∀ w ∈ ws, ∀ (a' : Array Value) (U : State), s.WarmedH U.vm → w.before a' U = true) ∧ Cond.codeWith y bytes maxL ret hh ∈ ws) ∧
  (Cond.codeWith y bytes maxL ret hh).before args s = true ∧ (Cond.initialized y.cls).before args s = true ∧ (y.cls ≠ "java/lang/invoke/MethodHandle" ∧ y.cls ≠ "java/lang/invoke/VarHandle") ∧
  (∀ sig, parseMethodDescriptor y.desc = some sig → n = sig.parameters.length) ∧ (Cond.methodLink own index y).before args s = true ∧ (Cond.instanceMethod y).before args s = true ∧ (Cond.selects C y y).before args s = true
theorem vx_cwVW {own C : String} {index maxL mc ms : Nat} {y : MethodName} {bytes : ByteArray} {ret : Option FieldType} {hh : List (Nat × Nat × Nat × Nat)} {Ts ws ws' : List Cond} {rm : Room} (n : Nat) (ht : ∀ w ∈ Ts, w.before args s = true) (hT : GoodIn Ts (wsV own index C y ws)) (hw : ws = Cond.codeWith y bytes maxL ret hh :: ws') (hrc : rm.cells = mc) (hrs : rm.slots = ms)
    (hd : y.cls = C ∧ y.cls ≠ "java/lang/invoke/MethodHandle" ∧ y.cls ≠ "java/lang/invoke/VarHandle" ∧ (parseMethodDescriptor y.desc).map (fun d => d.parameters.length) = some n) (hR : rm.frames + 1 ≤ R.frames ∧ 8 + (maxL + 11) + rm.locals ≤ R.locals) :
    vx_CVW R s args own C index y bytes maxL ret hh ws rm mc ms n := by
  obtain ⟨hC, hd⟩ := hd
  subst hC
  have ok : ∀ w ∈ wsV own index y.cls y ws, w.before args s = true := fun w h => ht w (hT w h).1
  have hG : GoodIn Ts ws := fun w h => hT w (by unfold wsV; exact List.mem_append_right _ h)
  have hc : Cond.codeWith y bytes maxL ret hh ∈ ws := by rw [hw]; exact List.mem_cons_self
  refine ⟨⟨hrc, hrs, hR.1, hR.2, pay_in ht hG, hc⟩, ht _ (hG _ hc).1, ok _ (by simp [wsV]), ⟨hd.1, hd.2.1⟩, fun sig h => ?_, ok _ (by simp [wsV]), ok _ (by simp [wsV]), ok _ (by simp [wsV])⟩
  have h2 := hd.2.2
  rw [h] at h2
  exact (Option.some.inj h2).symm
theorem vx_runVW {y : MethodName} {bytes cc : ByteArray} {maxL nL mc ms n index : Nat} {ret : Option FieldType} {hh : List (Nat × Nat × Nat × Nat)} {ws : List Cond} {rm : Room} {Pc : Array Value → State → Prop} {Qc : Array Value → State → Outcome → State → Prop} {free : Addr → Prop} {Ts : List Cond} {own C : String} {b : Addr} {As rest : List Value} {g : JFrame}
    (S : CallFix p m c cc nL s args Ts own) (hM : Met l y ws rm Pc Qc mc ms free) (cw : vx_CVW R s args own C index y bytes maxL ret hh ws rm mc ms n) (hp : PreV s H C b Pc As)
    (hg : g.method = m) (hn : As.length = n) (hsize : g.locals.size = nL) (hstack : g.stack = As.reverse ++ .ref b :: rest) (hW : 2 * g.monitorRoom + (rest.map fun v => v.category).sum ≤ 8) (hdg : decode cc g.pc = .ok (.invokevirtual index, 3)) (hf : cells + mc ≤ R.cells ∧ slots + ms ≤ R.slots) :
    va_Run p l e R s m args below meth c H locs cells slots mc ms g rest (Qc (Value.ref b :: As).toArray) free := by
  obtain ⟨⟨hrc, hrs, hfr, hlo, hws, hcw⟩, hcode, hini, hy, hlen, hl, hin, hse⟩ := cw
  have hK : Back l R p e below s args y 3 8 (PreOf R mc ms Pc) (PostOf Qc mc ms free) := va_backW (hh := hh) (bytes := bytes) (maxL := maxL) (ret := ret) hM hp.1 hrc hrs hfr hlo hws hcw (fun a' U hW => word_at hW (Or.inl (by first | rfl | simp [Cond.onTables, Cond.keeps, Cond.steady])) hini)
  obtain ⟨hx, hb, hml, ho, -⟩ := S
  obtain ⟨-, ⟨cellB, hcB, hoB, hclB⟩, hPc⟩ := hp
  intro T hT X
  obtain ⟨v, vm₁, ⟨U', l2, c2, s2⟩, hW₁, X', ⟨g', mk, t, L, e1, e2, hq, h1, hL, h2, h3⟩, st⟩ := vx_callVW X hx (C := C) (hh := hh) (bytes := bytes) (maxL := maxL) (ret := ret) ho hl hin hse hcode hy hK (by rw [hT]; exact hcB) hoB hclB hg (hsize.trans hml.symm) (argsL := As) (rest := rest) (fun sig h => hn.trans (hlen sig h)) hstack hW (by rw [hb]; exact hdg)
    (fun vm₁ hW₁ => ⟨hf.1, hf.2, hPc (T.setVm vm₁) hT hW₁⟩)
  dsimp only [Pt.U, Pt.locs, Pt.cells, Pt.slots] at X' e1 e2 h1 h2 h3 st
  subst h1; subst h2; subst h3
  exact ⟨v, (T.setVm vm₁).calling g' mk (Value.ref b :: As).toArray, t, U', L, hT, X', hL, e1, e2, hq, st⟩
section
variable {y : MethodName} {bytes cc : ByteArray} {maxL nL mc ms n index : Nat} {ret : Option FieldType} {ws : List Cond} {rm : Room} {Pc : Array Value → State → Prop} {Qc : Array Value → State → Outcome → State → Prop} {XC : String → State → State → Prop} {free : Addr → Prop} {Ts : List Cond} {own C : String} {b : Addr} {As rest : List Value} {g : JFrame}
theorem vx_runVX {hh : List (Nat × Nat × Nat × Nat)} (S : CallFix p m c cc nL s args Ts own) (hM : vx_Met l y ws rm Pc Qc XC mc ms free) (cw : vx_CVW R s args own C index y bytes maxL ret hh ws rm mc ms n) (hp : PreV s H C b Pc As)
    (hg : g.method = m) (hn : As.length = n) (hsize : g.locals.size = nL) (hstack : g.stack = As.reverse ++ .ref b :: rest) (hW : 2 * g.monitorRoom + (rest.map fun v => v.category).sum ≤ 8) (hdg : decode cc g.pc = .ok (.invokevirtual index, 3)) (hf : cells + mc ≤ R.cells ∧ slots + ms ≤ R.slots) :
    vx_Run p l e R s m args below meth c H locs cells slots mc ms g rest (Qc (Value.ref b :: As).toArray) XC free := by
  obtain ⟨⟨hrc, hrs, hfr, hlo, hws, hcw⟩, hcode, hini, hy, hlen, hl, hin, hse⟩ := cw
  have hK : vx_Back l R p e below s args y 3 8 (PreOf R mc ms Pc) (PostOf Qc mc ms free) (vx_Post XC mc ms free) := vx_backW (hh := hh) (bytes := bytes) (maxL := maxL) (ret := ret) hM hp.1 hrc hrs hfr hlo hws hcw (fun a' U hW => word_at hW (Or.inl (by first | rfl | simp [Cond.onTables, Cond.keeps, Cond.steady])) hini)
  obtain ⟨hx, hb, hml, ho, -⟩ := S
  obtain ⟨-, ⟨cellB, hcB, hoB, hclB⟩, hPc⟩ := hp
  intro T hT X
  rcases vx_callVX X hx (C := C) (hh := hh) (bytes := bytes) (maxL := maxL) (ret := ret) ho hl hin hse hcode hy hK (by rw [hT]; exact hcB) hoB hclB hg (hsize.trans hml.symm) (argsL := As) (rest := rest) (fun sig h => hn.trans (hlen sig h)) hstack hW (by rw [hb]; exact hdg)
    (fun vm₁ hW₁ => ⟨hf.1, hf.2, hPc (T.setVm vm₁) hT hW₁⟩) with ⟨v, vm₁, ⟨U', l2, c2, s2⟩, hW₁, X', ⟨g', mk, t, L, e1, e2, hq, h1, hL, h2, h3⟩, st⟩ | ⟨q, vm₁, ⟨U', l2, c2, s2⟩, hW₁, X', ⟨g', mk, t, L, E, ce, e1, e2, hq, hce, hcv, hcl, h1, hL, h2, h3⟩, st⟩
  · dsimp only [Pt.U, Pt.locs, Pt.cells, Pt.slots] at X' e1 e2 h1 h2 h3 st
    subst h1; subst h2; subst h3
    exact Or.inl ⟨v, (T.setVm vm₁).calling g' mk (Value.ref b :: As).toArray, t, U', L, hT, X', hL, e1, e2, hq, st⟩
  · dsimp only [Pt.U, Pt.locs, Pt.cells, Pt.slots] at X' e1 e2 h1 h2 h3 st hcl
    subst h1; subst h2; subst h3
    exact Or.inr ⟨q, (T.setVm vm₁).calling g' mk (Value.ref b :: As).toArray, t, U', L, E, ce, hT, X', hL, e1, e2, hq, hce, hcv, vx_cls hW₁ hcl, st⟩
theorem vx_runSX {hh : List (Nat × Nat × Nat × Nat)} (S : CallFix p m c cc nL s args Ts own) (hM : vx_Met l y ws rm Pc Qc XC mc ms free) (cw : vx_CSW R s args own index y bytes maxL ret hh ws rm mc ms n) (hp : PreS s H Pc As)
    (hg : g.method = m) (hn : As.length = n) (hsize : g.locals.size = nL) (hstack : g.stack = As.reverse ++ rest) (hW : 2 * g.monitorRoom + (rest.map fun v => v.category).sum ≤ 8) (hdg : decode cc g.pc = .ok (.invokestatic index, 3)) (hf : cells + mc ≤ R.cells ∧ slots + ms ≤ R.slots) :
    vx_Run p l e R s m args below meth c H locs cells slots mc ms g rest (Qc As.toArray) XC free := by
  obtain ⟨⟨hrc, hrs, hfr, hlo, hws, hcw⟩, hcode, hini, hy, hlen, hl, hstt⟩ := cw
  have hK : vx_Back l R p e below s args y 3 8 (PreOf R mc ms Pc) (PostOf Qc mc ms free) (vx_Post XC mc ms free) := vx_backW (hh := hh) (bytes := bytes) (maxL := maxL) (ret := ret) hM hp.1 hrc hrs hfr hlo hws hcw (fun a' U hW => word_at hW (Or.inl (by first | rfl | simp [Cond.onTables, Cond.keeps, Cond.steady])) hini)
  obtain ⟨hx, hb, hml, ho, -⟩ := S
  intro T hT X
  rcases vx_callSX X hx (hh := hh) (bytes := bytes) (maxL := maxL) (ret := ret) ho hl hstt hini hcode hy hK hg (hsize.trans hml.symm) (argsL := As) (rest := rest) (fun sig h => hn.trans (hlen sig h)) hstack hW (by rw [hb]; exact hdg)
    (fun vm₁ hW₁ => ⟨hf.1, hf.2, hp.2 (T.setVm vm₁) hT hW₁⟩) with ⟨v, vm₁, ⟨U', l2, c2, s2⟩, hW₁, X', ⟨g', mk, t, L, e1, e2, hq, h1, hL, h2, h3⟩, st⟩ | ⟨q, vm₁, ⟨U', l2, c2, s2⟩, hW₁, X', ⟨g', mk, t, L, E, ce, e1, e2, hq, hce, hcv, hcl, h1, hL, h2, h3⟩, st⟩
  · dsimp only [Pt.U, Pt.locs, Pt.cells, Pt.slots] at X' e1 e2 h1 h2 h3 st
    subst h1; subst h2; subst h3
    exact Or.inl ⟨v, (T.setVm vm₁).calling g' mk As.toArray, t, U', L, hT, X', hL, e1, e2, hq, st⟩
  · dsimp only [Pt.U, Pt.locs, Pt.cells, Pt.slots] at X' e1 e2 h1 h2 h3 st hcl
    subst h1; subst h2; subst h3
    exact Or.inr ⟨q, (T.setVm vm₁).calling g' mk As.toArray, t, U', L, E, ce, hT, X', hL, e1, e2, hq, hce, hcv, vx_cls hW₁ hcl, st⟩
end
end VXH
theorem vx_ofWH {l : Launch} {y : MethodName} {ws ws' : List Cond} {rm : Room} {Pc : Array Value → State → Prop} {Qc : Array Value → State → Outcome → State → Prop} {XC : String → State → State → Prop} {mc ms : Nat} {free : Addr → Prop} {cc : ByteArray} {maxL : Nat} {ret : Option FieldType} {hh : List (Nat × Nat × Nat × Nat)}
    (hy : plainName y.cls = true) (hw : ws = Cond.codeWith y cc maxL ret hh :: ws')
    (body : ∀ p e s m args below meth c s₁, BodyLoose p l y (headSpec ws rm) cc maxL ret e s m args below meth c s₁ → c.maxLocals = maxL → Pc args s →
      W p l e (headSpec ws rm).room s m args below meth c s.heap [] 0 0 (vx_MQ below Qc XC args s mc ms free) (entryFrame m args maxL)) : vx_Met l y ws rm Pc Qc XC mc ms free := by
  refine MetFree.of_bodyS (code := cc) (maxLocals := maxL) (ret := ret) hy ?_ ?_
  · intro args s m h hn
    obtain ⟨m9, meth, c, hn9, h1, h2, h3, h4, -, h5, h6, -⟩ := Cond.codeWith_spec (atoms_spec (ws := ws) h _ (by rw [hw]; exact List.mem_cons_self))
    cases hn.symm.trans hn9
    exact ⟨meth, c, h1, h2, h3, h4, h5, h6⟩
  · intro p e s m args below meth c s₁ B hml hP _
    have hh0 : s₁.heap = s.heap := by rw [B.state]; rfl
    obtain ⟨t, a1, o, b1, b2, b3⟩ := body p e s m args below meth c s₁ B hml hP s₁ hh0 (Stand.of_body B)
    exact ⟨t, o, a1, b1, b2, b3⟩
/-! ===== END ===== -/
end
section
/-! ===== BEGIN printed: names, fields, word lists, decode rows ===== -/
def RX0 : String := "CraneReach$Plan"
def TX0 : u_T := fun k => match k with
  | 0 => ("CraneReach$Plan", "moves", "[I", true)
  | 1 => ("CraneReach$Plan", "found", "[I", true)
  | _ => ("CraneReach$Plan", "places", "I", false)
def tyX0 : Nat → FieldType := fun k => match k with
  | 0 => .array .int
  | 1 => .array .int
  | _ => .int
abbrev wsX00 : List Cond := u_ws RX0 TX0 3
theorem nmX0 : ∀ a, a < 3 → ∀ b, b < 3 → a ≠ b → (TX0 a).2.1 ≠ (TX0 b).2.1 := by decide +kernel
theorem tyX0_ok : ∀ k, k < 3 → parseFieldDescriptor (TX0 k).2.2.1 = some (tyX0 k) := by decide +kernel
abbrev cX0_init : ByteArray := prog_2_method_1_code
def yX0_init : MethodName := ⟨RX0, "<init>", "()V"⟩
abbrev cX0_spread : ByteArray := prog_2_method_2_code
def yX0_spread : MethodName := ⟨RX0, "spread", "(LCraneReach$Rig;III)I"⟩
abbrev cX0_movesTo : ByteArray := prog_2_method_3_code
def yX0_movesTo : MethodName := ⟨RX0, "movesTo", "(II)I"⟩
abbrev cX0_visitBeside : ByteArray := prog_2_method_4_code
def yX0_visitBeside : MethodName := ⟨RX0, "visitBeside", "(LCraneReach$Rig;II)V"⟩
abbrev cX0_visit : ByteArray := prog_2_method_5_code
def yX0_visit : MethodName := ⟨RX0, "visit", "(LCraneReach$Rig;IIII)V"⟩
abbrev cX0_placeOf : ByteArray := prog_2_method_6_code
def yX0_placeOf : MethodName := ⟨RX0, "placeOf", "(II)I"⟩
def RX1 : String := "CraneReach$Rig"
def TX1 : u_T := fun k => match k with
  | 0 => ("CraneReach$Rig", "outs", "[I", true)
  | 1 => ("CraneReach$Rig", "limits", "[I", true)
  | _ => ("CraneReach$Rig", "plates", "I", false)
def tyX1 : Nat → FieldType := fun k => match k with
  | 0 => .array .int
  | 1 => .array .int
  | _ => .int
abbrev wsX10 : List Cond := u_ws RX1 TX1 3
theorem nmX1 : ∀ a, a < 3 → ∀ b, b < 3 → a ≠ b → (TX1 a).2.1 ≠ (TX1 b).2.1 := by decide +kernel
theorem tyX1_ok : ∀ k, k < 3 → parseFieldDescriptor (TX1 k).2.2.1 = some (tyX1 k) := by decide +kernel
abbrev cX1_init : ByteArray := prog_3_method_1_code
def yX1_init : MethodName := ⟨RX1, "<init>", "()V"⟩
abbrev cX1_becomeLike : ByteArray := prog_3_method_2_code
def yX1_becomeLike : MethodName := ⟨RX1, "becomeLike", "(LCraneReach$Rig;)V"⟩
abbrev cX1_drawn : ByteArray := prog_3_method_3_code
def yX1_drawn : MethodName := ⟨RX1, "drawn", "(I)I"⟩
abbrev cX1_draw : ByteArray := prog_3_method_4_code
def yX1_draw : MethodName := ⟨RX1, "draw", "(II)V"⟩
abbrev cX1_allowed : ByteArray := prog_3_method_5_code
def yX1_allowed : MethodName := ⟨RX1, "allowed", "(I)I"⟩
abbrev cX1_allow : ByteArray := prog_3_method_6_code
def yX1_allow : MethodName := ⟨RX1, "allow", "(II)V"⟩
abbrev cX1_isSafe : ByteArray := prog_3_method_7_code
def yX1_isSafe : MethodName := ⟨RX1, "isSafe", "(III)Z"⟩
abbrev cX1_strain : ByteArray := prog_3_method_8_code
def yX1_strain : MethodName := ⟨RX1, "strain", "(IIII)I"⟩
abbrev cX1_slant : ByteArray := prog_3_method_9_code
def yX1_slant : MethodName := ⟨RX1, "slant", "(II)I"⟩
def RX2 : String := "CraneReach"
def TX2 : u_T := fun k => match k with
  | 0 => ("CraneReach", "rig", "LCraneReach$Rig;", true)
  | 1 => ("CraneReach", "trial", "LCraneReach$Rig;", true)
  | 2 => ("CraneReach", "plan", "LCraneReach$Plan;", true)
  | 3 => ("CraneReach", "direction", "I", false)
  | 4 => ("CraneReach", "reach", "I", false)
  | 5 => ("CraneReach", "load", "I", false)
  | 6 => ("CraneReach", "lifts", "I", false)
  | 7 => ("CraneReach", "tonsLifted", "I", false)
  | _ => ("CraneReach", "movesWithLoad", "I", false)
def tyX2 : Nat → FieldType := fun k => match k with
  | 0 => .object "CraneReach$Rig"
  | 1 => .object "CraneReach$Rig"
  | 2 => .object "CraneReach$Plan"
  | 3 => .int
  | 4 => .int
  | 5 => .int
  | 6 => .int
  | 7 => .int
  | _ => .int
abbrev wsX20 : List Cond := u_ws RX2 TX2 9
theorem nmX2 : ∀ a, a < 9 → ∀ b, b < 9 → a ≠ b → (TX2 a).2.1 ≠ (TX2 b).2.1 := by decide +kernel
theorem tyX2_ok : ∀ k, k < 9 → parseFieldDescriptor (TX2 k).2.2.1 = some (tyX2 k) := by decide +kernel
abbrev cX2_init : ByteArray := prog_1_method_1_code
def yX2_init : MethodName := ⟨RX2, "<init>", "()V"⟩
abbrev cX2_setPlates : ByteArray := prog_1_method_2_code
def yX2_setPlates : MethodName := ⟨RX2, "setPlates", "(I)I"⟩
abbrev cX2_setOutrigger : ByteArray := prog_1_method_3_code
def yX2_setOutrigger : MethodName := ⟨RX2, "setOutrigger", "(II)I"⟩
abbrev cX2_setLimit : ByteArray := prog_1_method_4_code
def yX2_setLimit : MethodName := ⟨RX2, "setLimit", "(II)I"⟩
abbrev cX2_lift : ByteArray := prog_1_method_5_code
def yX2_lift : MethodName := ⟨RX2, "lift", "(I)I"⟩
abbrev cX2_setDown : ByteArray := prog_1_method_6_code
def yX2_setDown : MethodName := ⟨RX2, "setDown", "()I"⟩
abbrev cX2_swing : ByteArray := prog_1_method_7_code
def yX2_swing : MethodName := ⟨RX2, "swing", "(IZ)I"⟩
abbrev cX2_stretch : ByteArray := prog_1_method_8_code
def yX2_stretch : MethodName := ⟨RX2, "stretch", "(IZ)I"⟩
abbrev cX2_direction : ByteArray := prog_1_method_9_code
def yX2_direction : MethodName := ⟨RX2, "direction", "()I"⟩
abbrev cX2_reach : ByteArray := prog_1_method_10_code
def yX2_reach : MethodName := ⟨RX2, "reach", "()I"⟩
abbrev cX2_load : ByteArray := prog_1_method_11_code
def yX2_load : MethodName := ⟨RX2, "load", "()I"⟩
abbrev cX2_plates : ByteArray := prog_1_method_12_code
def yX2_plates : MethodName := ⟨RX2, "plates", "()I"⟩
abbrev cX2_outrigger : ByteArray := prog_1_method_13_code
def yX2_outrigger : MethodName := ⟨RX2, "outrigger", "(I)I"⟩
abbrev cX2_limitAt : ByteArray := prog_1_method_14_code
def yX2_limitAt : MethodName := ⟨RX2, "limitAt", "(I)I"⟩
abbrev cX2_strainOn : ByteArray := prog_1_method_15_code
def yX2_strainOn : MethodName := ⟨RX2, "strainOn", "(I)I"⟩
abbrev cX2_weakestSide : ByteArray := prog_1_method_16_code
def yX2_weakestSide : MethodName := ⟨RX2, "weakestSide", "()I"⟩
abbrev cX2_lifts : ByteArray := prog_1_method_17_code
def yX2_lifts : MethodName := ⟨RX2, "lifts", "()I"⟩
abbrev cX2_tonsLifted : ByteArray := prog_1_method_18_code
def yX2_tonsLifted : MethodName := ⟨RX2, "tonsLifted", "()I"⟩
abbrev cX2_movesWithLoad : ByteArray := prog_1_method_19_code
def yX2_movesWithLoad : MethodName := ⟨RX2, "movesWithLoad", "()I"⟩
abbrev cX2_isSafeWith : ByteArray := prog_1_method_20_code
def yX2_isSafeWith : MethodName := ⟨RX2, "isSafeWith", "(III)Z"⟩
abbrev cX2_greatestLoad : ByteArray := prog_1_method_21_code
def yX2_greatestLoad : MethodName := ⟨RX2, "greatestLoad", "()I"⟩
abbrev cX2_farthestReach : ByteArray := prog_1_method_22_code
def yX2_farthestReach : MethodName := ⟨RX2, "farthestReach", "(II)I"⟩
abbrev cX2_safeDirections : ByteArray := prog_1_method_23_code
def yX2_safeDirections : MethodName := ⟨RX2, "safeDirections", "(II)I"⟩
abbrev cX2_platesNeeded : ByteArray := prog_1_method_24_code
def yX2_platesNeeded : MethodName := ⟨RX2, "platesNeeded", "(III)I"⟩
abbrev cX2_fewestMoves : ByteArray := prog_1_method_25_code
def yX2_fewestMoves : MethodName := ⟨RX2, "fewestMoves", "(III)I"⟩
abbrev cX2_placesWithin : ByteArray := prog_1_method_26_code
def yX2_placesWithin : MethodName := ⟨RX2, "placesWithin", "(I)I"⟩
abbrev cX2_bestOutrigger : ByteArray := prog_1_method_27_code
def yX2_bestOutrigger : MethodName := ⟨RX2, "bestOutrigger", "(I)I"⟩
abbrev cX2_meanLoad : ByteArray := prog_1_method_28_code
def yX2_meanLoad : MethodName := ⟨RX2, "meanLoad", "()D"⟩
abbrev cX2_digest : ByteArray := prog_1_method_29_code
def yX2_digest : MethodName := ⟨RX2, "digest", "()J"⟩
abbrev cX2_mixed : ByteArray := prog_1_method_30_code
def yX2_mixed : MethodName := ⟨RX2, "mixed", "(JI)J"⟩
abbrev cX2_countMoves : ByteArray := prog_1_method_31_code
def yX2_countMoves : MethodName := ⟨RX2, "countMoves", "(I)V"⟩
abbrev cX2_requireSafe : ByteArray := prog_1_method_32_code
def yX2_requireSafe : MethodName := ⟨RX2, "requireSafe", "(LCraneReach$Rig;I)V"⟩
abbrev cX2_requireNoLoad : ByteArray := prog_1_method_33_code
def yX2_requireNoLoad : MethodName := ⟨RX2, "requireNoLoad", "()V"⟩
abbrev cX2_requireSide : ByteArray := prog_1_method_34_code
def yX2_requireSide : MethodName := ⟨RX2, "requireSide", "(I)V"⟩
abbrev cX2_requireDirection : ByteArray := prog_1_method_35_code
def yX2_requireDirection : MethodName := ⟨RX2, "requireDirection", "(I)V"⟩
abbrev cX2_requireLoad : ByteArray := prog_1_method_36_code
def yX2_requireLoad : MethodName := ⟨RX2, "requireLoad", "(I)V"⟩
abbrev cX2_requireReach : ByteArray := prog_1_method_37_code
def yX2_requireReach : MethodName := ⟨RX2, "requireReach", "(I)V"⟩
abbrev cX2_isReach : ByteArray := prog_1_method_38_code
def yX2_isReach : MethodName := ⟨RX2, "isReach", "(I)Z"⟩
abbrev cX2_isWithin : ByteArray := prog_1_method_39_code
def yX2_isWithin : MethodName := ⟨RX2, "isWithin", "(III)Z"⟩
abbrev cX2_turned : ByteArray := prog_1_method_40_code
def yX2_turned : MethodName := ⟨RX2, "turned", "(II)I"⟩
def RX3 : String := "CraneReachModel"
def TX3 : u_T := fun k => match k with
  | 0 => ("CraneReachModel", "thrown", "I", false)
  | 1 => ("CraneReachModel", "direction", "I", false)
  | 2 => ("CraneReachModel", "reach", "I", false)
  | 3 => ("CraneReachModel", "load", "I", false)
  | 4 => ("CraneReachModel", "plates", "I", false)
  | 5 => ("CraneReachModel", "out", "[I", true)
  | 6 => ("CraneReachModel", "limit", "[I", true)
  | 7 => ("CraneReachModel", "lifts", "I", false)
  | 8 => ("CraneReachModel", "tons", "I", false)
  | 9 => ("CraneReachModel", "moves", "I", false)
  | 10 => ("CraneReachModel", "away", "[I", true)
  | 11 => ("CraneReachModel", "queue", "[I", true)
  | _ => ("CraneReachModel", "many", "I", false)
def tyX3 : Nat → FieldType := fun k => match k with
  | 0 => .int
  | 1 => .int
  | 2 => .int
  | 3 => .int
  | 4 => .int
  | 5 => .array .int
  | 6 => .array .int
  | 7 => .int
  | 8 => .int
  | 9 => .int
  | 10 => .array .int
  | 11 => .array .int
  | _ => .int
abbrev wsX30 : List Cond := u_ws RX3 TX3 13
theorem nmX3 : ∀ a, a < 13 → ∀ b, b < 13 → a ≠ b → (TX3 a).2.1 ≠ (TX3 b).2.1 := by decide +kernel
theorem tyX3_ok : ∀ k, k < 13 → parseFieldDescriptor (TX3 k).2.2.1 = some (tyX3 k) := by decide +kernel
abbrev cX3_init : ByteArray := prog_5_method_1_code
def yX3_init : MethodName := ⟨RX3, "<init>", "()V"⟩
abbrev cX3_thrown : ByteArray := prog_5_method_2_code
def yX3_thrown : MethodName := ⟨RX3, "thrown", "()I"⟩
abbrev cX3_no : ByteArray := prog_5_method_3_code
def yX3_no : MethodName := ⟨RX3, "no", "(I)I"⟩
abbrev cX3_isNot : ByteArray := prog_5_method_4_code
def yX3_isNot : MethodName := ⟨RX3, "isNot", "(I)Z"⟩
abbrev cX3_isIn : ByteArray := prog_5_method_5_code
def yX3_isIn : MethodName := ⟨RX3, "isIn", "(III)Z"⟩
abbrev cX3_isSide : ByteArray := prog_5_method_6_code
def yX3_isSide : MethodName := ⟨RX3, "isSide", "(I)Z"⟩
abbrev cX3_isDirection : ByteArray := prog_5_method_7_code
def yX3_isDirection : MethodName := ⟨RX3, "isDirection", "(I)Z"⟩
abbrev cX3_isReach : ByteArray := prog_5_method_8_code
def yX3_isReach : MethodName := ⟨RX3, "isReach", "(I)Z"⟩
abbrev cX3_isLoad : ByteArray := prog_5_method_9_code
def yX3_isLoad : MethodName := ⟨RX3, "isLoad", "(I)Z"⟩
abbrev cX3_strain : ByteArray := prog_5_method_10_code
def yX3_strain : MethodName := ⟨RX3, "strain", "(IIII)I"⟩
abbrev cX3_isSafe : ByteArray := prog_5_method_11_code
def yX3_isSafe : MethodName := ⟨RX3, "isSafe", "(III)Z"⟩
abbrev cX3_isSafe_ : ByteArray := prog_5_method_12_code
def yX3_isSafe_ : MethodName := ⟨RX3, "isSafe", "()Z"⟩
abbrev cX3_setPlates : ByteArray := prog_5_method_13_code
def yX3_setPlates : MethodName := ⟨RX3, "setPlates", "(I)I"⟩
abbrev cX3_setOutrigger : ByteArray := prog_5_method_14_code
def yX3_setOutrigger : MethodName := ⟨RX3, "setOutrigger", "(II)I"⟩
abbrev cX3_setLimit : ByteArray := prog_5_method_15_code
def yX3_setLimit : MethodName := ⟨RX3, "setLimit", "(II)I"⟩
abbrev cX3_lift : ByteArray := prog_5_method_16_code
def yX3_lift : MethodName := ⟨RX3, "lift", "(I)I"⟩
abbrev cX3_setDown : ByteArray := prog_5_method_17_code
def yX3_setDown : MethodName := ⟨RX3, "setDown", "()I"⟩
abbrev cX3_moved : ByteArray := prog_5_method_18_code
def yX3_moved : MethodName := ⟨RX3, "moved", "()V"⟩
abbrev cX3_swing : ByteArray := prog_5_method_19_code
def yX3_swing : MethodName := ⟨RX3, "swing", "(IZ)I"⟩
abbrev cX3_stretch : ByteArray := prog_5_method_20_code
def yX3_stretch : MethodName := ⟨RX3, "stretch", "(IZ)I"⟩
abbrev cX3_ok : ByteArray := prog_5_method_21_code
def yX3_ok : MethodName := ⟨RX3, "ok", "(I)I"⟩
abbrev cX3_direction : ByteArray := prog_5_method_22_code
def yX3_direction : MethodName := ⟨RX3, "direction", "()I"⟩
abbrev cX3_reach : ByteArray := prog_5_method_23_code
def yX3_reach : MethodName := ⟨RX3, "reach", "()I"⟩
abbrev cX3_load : ByteArray := prog_5_method_24_code
def yX3_load : MethodName := ⟨RX3, "load", "()I"⟩
abbrev cX3_plates : ByteArray := prog_5_method_25_code
def yX3_plates : MethodName := ⟨RX3, "plates", "()I"⟩
abbrev cX3_outrigger : ByteArray := prog_5_method_26_code
def yX3_outrigger : MethodName := ⟨RX3, "outrigger", "(I)I"⟩
abbrev cX3_limitAt : ByteArray := prog_5_method_27_code
def yX3_limitAt : MethodName := ⟨RX3, "limitAt", "(I)I"⟩
abbrev cX3_strainNow : ByteArray := prog_5_method_28_code
def yX3_strainNow : MethodName := ⟨RX3, "strainNow", "(I)I"⟩
abbrev cX3_strainOn : ByteArray := prog_5_method_29_code
def yX3_strainOn : MethodName := ⟨RX3, "strainOn", "(I)I"⟩
abbrev cX3_weakest : ByteArray := prog_5_method_30_code
def yX3_weakest : MethodName := ⟨RX3, "weakest", "()I"⟩
abbrev cX3_weakestSide : ByteArray := prog_5_method_31_code
def yX3_weakestSide : MethodName := ⟨RX3, "weakestSide", "()I"⟩
abbrev cX3_lifts : ByteArray := prog_5_method_32_code
def yX3_lifts : MethodName := ⟨RX3, "lifts", "()I"⟩
abbrev cX3_tonsLifted : ByteArray := prog_5_method_33_code
def yX3_tonsLifted : MethodName := ⟨RX3, "tonsLifted", "()I"⟩
abbrev cX3_movesWithLoad : ByteArray := prog_5_method_34_code
def yX3_movesWithLoad : MethodName := ⟨RX3, "movesWithLoad", "()I"⟩
abbrev cX3_isSafeWith : ByteArray := prog_5_method_35_code
def yX3_isSafeWith : MethodName := ⟨RX3, "isSafeWith", "(III)Z"⟩
abbrev cX3_greatest : ByteArray := prog_5_method_36_code
def yX3_greatest : MethodName := ⟨RX3, "greatest", "()I"⟩
abbrev cX3_greatestLoad : ByteArray := prog_5_method_37_code
def yX3_greatestLoad : MethodName := ⟨RX3, "greatestLoad", "()I"⟩
abbrev cX3_farthestReach : ByteArray := prog_5_method_38_code
def yX3_farthestReach : MethodName := ⟨RX3, "farthestReach", "(II)I"⟩
abbrev cX3_safeAround : ByteArray := prog_5_method_39_code
def yX3_safeAround : MethodName := ⟨RX3, "safeAround", "(II)I"⟩
abbrev cX3_safeDirections : ByteArray := prog_5_method_40_code
def yX3_safeDirections : MethodName := ⟨RX3, "safeDirections", "(II)I"⟩
abbrev cX3_fewestPlates : ByteArray := prog_5_method_41_code
def yX3_fewestPlates : MethodName := ⟨RX3, "fewestPlates", "(III)I"⟩
abbrev cX3_platesNeeded : ByteArray := prog_5_method_42_code
def yX3_platesNeeded : MethodName := ⟨RX3, "platesNeeded", "(III)I"⟩
abbrev cX3_comeTo : ByteArray := prog_5_method_43_code
def yX3_comeTo : MethodName := ⟨RX3, "comeTo", "(IIII)V"⟩
abbrev cX3_goOut : ByteArray := prog_5_method_44_code
def yX3_goOut : MethodName := ⟨RX3, "goOut", "(I)V"⟩
abbrev cX3_fewestMoves : ByteArray := prog_5_method_45_code
def yX3_fewestMoves : MethodName := ⟨RX3, "fewestMoves", "(III)I"⟩
abbrev cX3_within : ByteArray := prog_5_method_46_code
def yX3_within : MethodName := ⟨RX3, "within", "(I)I"⟩
abbrev cX3_placesWithin : ByteArray := prog_5_method_47_code
def yX3_placesWithin : MethodName := ⟨RX3, "placesWithin", "(I)I"⟩
abbrev cX3_bestOutrigger : ByteArray := prog_5_method_48_code
def yX3_bestOutrigger : MethodName := ⟨RX3, "bestOutrigger", "(I)I"⟩
abbrev cX3_meanLoad : ByteArray := prog_5_method_49_code
def yX3_meanLoad : MethodName := ⟨RX3, "meanLoad", "()D"⟩
abbrev cX3_digest : ByteArray := prog_5_method_50_code
def yX3_digest : MethodName := ⟨RX3, "digest", "()J"⟩
def RJ9 : String := "java/lang/Math"
def TJ9 : u_T := fun k => match k with
  | _ => ("", "", "", false)
def tyJ9 : Nat → FieldType := fun k => match k with
  | _ => .int
abbrev wsJ90 : List Cond := u_ws RJ9 TJ9 0
theorem nmJ9 : ∀ a, a < 0 → ∀ b, b < 0 → a ≠ b → (TJ9 a).2.1 ≠ (TJ9 b).2.1 := by decide +kernel
theorem tyJ9_ok : ∀ k, k < 0 → parseFieldDescriptor (TJ9 k).2.2.1 = some (tyJ9 k) := by decide +kernel
abbrev cJ9_abs_0f7a4 : ByteArray := prog_10_method_59_code
def yJ9_abs_0f7a4 : MethodName := ⟨RJ9, "abs", "(I)I"⟩
abbrev cJ9_min_7cf53 : ByteArray := prog_10_method_69_code
def yJ9_min_7cf53 : MethodName := ⟨RJ9, "min", "(II)I"⟩
def RJ0 : String := "java/lang/String"
def TJ0 : u_T := fun k => match k with
  | _ => ("", "", "", false)
def tyJ0 : Nat → FieldType := fun k => match k with
  | _ => .int
abbrev wsJ00 : List Cond := u_ws RJ0 TJ0 0
theorem nmJ0 : ∀ a, a < 0 → ∀ b, b < 0 → a ≠ b → (TJ0 a).2.1 ≠ (TJ0 b).2.1 := by decide +kernel
theorem tyJ0_ok : ∀ k, k < 0 → parseFieldDescriptor (TJ0 k).2.2.1 = some (tyJ0 k) := by decide +kernel
def RL : String := "CraneReachLaw"
abbrev cL_setPlates : ByteArray := method_3_code
def yL_setPlates : MethodName := ⟨RL, "setPlates", "(LCraneReach;I[J)I"⟩
abbrev cL_setOutrigger : ByteArray := method_4_code
def yL_setOutrigger : MethodName := ⟨RL, "setOutrigger", "(LCraneReach;II[J)I"⟩
abbrev cL_setLimit : ByteArray := method_5_code
def yL_setLimit : MethodName := ⟨RL, "setLimit", "(LCraneReach;II[J)I"⟩
abbrev cL_lift : ByteArray := method_6_code
def yL_lift : MethodName := ⟨RL, "lift", "(LCraneReach;I[J)I"⟩
abbrev cL_setDown : ByteArray := method_7_code
def yL_setDown : MethodName := ⟨RL, "setDown", "(LCraneReach;[J)I"⟩
abbrev cL_swing : ByteArray := method_8_code
def yL_swing : MethodName := ⟨RL, "swing", "(LCraneReach;IZ[J)I"⟩
abbrev cL_stretch : ByteArray := method_9_code
def yL_stretch : MethodName := ⟨RL, "stretch", "(LCraneReach;IZ[J)I"⟩
abbrev cL_outrigger : ByteArray := method_10_code
def yL_outrigger : MethodName := ⟨RL, "outrigger", "(LCraneReach;I[J)I"⟩
abbrev cL_limitAt : ByteArray := method_11_code
def yL_limitAt : MethodName := ⟨RL, "limitAt", "(LCraneReach;I[J)I"⟩
abbrev cL_strainOn : ByteArray := method_12_code
def yL_strainOn : MethodName := ⟨RL, "strainOn", "(LCraneReach;I[J)I"⟩
abbrev cL_isSafeWith : ByteArray := method_13_code
def yL_isSafeWith : MethodName := ⟨RL, "isSafeWith", "(LCraneReach;III[J)I"⟩
abbrev cL_farthestReach : ByteArray := method_14_code
def yL_farthestReach : MethodName := ⟨RL, "farthestReach", "(LCraneReach;II[J)I"⟩
abbrev cL_safeDirections : ByteArray := method_15_code
def yL_safeDirections : MethodName := ⟨RL, "safeDirections", "(LCraneReach;II[J)I"⟩
abbrev cL_platesNeeded : ByteArray := method_16_code
def yL_platesNeeded : MethodName := ⟨RL, "platesNeeded", "(LCraneReach;III[J)I"⟩
abbrev cL_fewestMoves : ByteArray := method_17_code
def yL_fewestMoves : MethodName := ⟨RL, "fewestMoves", "(LCraneReach;III[J)I"⟩
abbrev cL_placesWithin : ByteArray := method_18_code
def yL_placesWithin : MethodName := ⟨RL, "placesWithin", "(LCraneReach;I[J)I"⟩
abbrev cL_bestOutrigger : ByteArray := method_19_code
def yL_bestOutrigger : MethodName := ⟨RL, "bestOutrigger", "(LCraneReach;I[J)I"⟩
abbrev cL_law : ByteArray := code
def yL_law : MethodName := ⟨RL, "law", "([I)Z"⟩
def wsX0_init : List Cond := .code yX0_init cX0_init 1 none :: ([.methodLink RX0 3 objectInit, .instanceMethod objectInit, .code objectInit ⟨#[0xb1]⟩ 1 none, .arrayClass .int, .fieldLink RX0 9 "CraneReach$Plan" "moves" "[I", .fieldLink RX0 15 "CraneReach$Plan" "found" "[I"] ++ wsX00)
def wsX2_isWithin : List Cond := .code yX2_isWithin cX2_isWithin 3 (some .boolean) :: ([])
def wsX2_isReach : List Cond := .code yX2_isReach cX2_isReach 1 (some .boolean) :: ([.methodLink RX2 30 yX2_isWithin, .static yX2_isWithin, .initialized RX2, .code yX2_isWithin cX2_isWithin 3 (some .boolean)])
def wsX0_placeOf : List Cond := .code yX0_placeOf cX0_placeOf 2 (some .int) :: ([.static yX2_isReach, .initialized RX2, .code yX2_isReach cX2_isReach 1 (some .boolean), .methodLink RX2 30 yX2_isWithin, .static yX2_isWithin, .code yX2_isWithin cX2_isWithin 3 (some .boolean)])
def wsX1_allowed : List Cond := .code yX1_allowed cX1_allowed 3 (some .int) :: ([.fieldLink RX1 15 "CraneReach$Rig" "limits" "[I"] ++ wsX10)
def wsX1_drawn : List Cond := .code yX1_drawn cX1_drawn 2 (some .int) :: ([.fieldLink RX1 9 "CraneReach$Rig" "outs" "[I"] ++ wsX10)
def wsX1_slant : List Cond := .code yX1_slant cX1_slant 2 (some .int) :: ([])
def wsX1_strain : List Cond := .code yX1_strain cX1_strain 7 (some .int) :: ([.fieldLink RX1 18 "CraneReach$Rig" "plates" "I", .methodLink RX1 22 yX1_drawn, .instanceMethod yX1_drawn, .selects RX1 yX1_drawn yX1_drawn, .initialized RX1, .code yX1_drawn cX1_drawn 2 (some .int), .fieldLink RX1 9 "CraneReach$Rig" "outs" "[I", .methodLink RX1 40 yX1_slant, .static yX1_slant, .code yX1_slant cX1_slant 2 (some .int)] ++ wsX10)
def wsX1_isSafe : List Cond := .code yX1_isSafe cX1_isSafe 5 (some .boolean) :: ([.methodLink RX1 30 yX1_allowed, .instanceMethod yX1_allowed, .selects RX1 yX1_allowed yX1_allowed, .initialized RX1, .code yX1_allowed cX1_allowed 3 (some .int), .fieldLink RX1 15 "CraneReach$Rig" "limits" "[I", .methodLink RX1 36 yX1_strain, .instanceMethod yX1_strain, .selects RX1 yX1_strain yX1_strain, .code yX1_strain cX1_strain 7 (some .int), .fieldLink RX1 18 "CraneReach$Rig" "plates" "I", .methodLink RX1 22 yX1_drawn, .instanceMethod yX1_drawn, .selects RX1 yX1_drawn yX1_drawn, .code yX1_drawn cX1_drawn 2 (some .int), .fieldLink RX1 9 "CraneReach$Rig" "outs" "[I", .methodLink RX1 40 yX1_slant, .static yX1_slant, .code yX1_slant cX1_slant 2 (some .int)] ++ wsX10)
def wsX0_visit_r1 : List Cond := [Cond.fieldLink RX0 9 "CraneReach$Plan" "moves" "[I", Cond.fieldLink RX0 18 "CraneReach$Plan" "places" "I", Cond.fieldLink RX0 15 "CraneReach$Plan" "found" "[I", Cond.methodLink RX0 30 yX0_placeOf, Cond.static yX0_placeOf, Cond.initialized RX0, Cond.code yX0_placeOf cX0_placeOf 2 (some .int), Cond.static yX2_isReach, Cond.initialized RX2, Cond.code yX2_isReach cX2_isReach 1 (some .boolean), Cond.methodLink RX2 30 yX2_isWithin, Cond.static yX2_isWithin, Cond.code yX2_isWithin cX2_isWithin 3 (some .boolean), Cond.methodLink RX0 37 yX1_isSafe, Cond.instanceMethod yX1_isSafe, Cond.selects RX1 yX1_isSafe yX1_isSafe, Cond.initialized RX1, Cond.code yX1_isSafe cX1_isSafe 5 (some .boolean), Cond.methodLink RX1 30 yX1_allowed, Cond.instanceMethod yX1_allowed, Cond.selects RX1 yX1_allowed yX1_allowed, Cond.code yX1_allowed cX1_allowed 3 (some .int), Cond.fieldLink RX1 15 "CraneReach$Rig" "limits" "[I", Cond.methodLink RX1 36 yX1_strain]
def wsX0_visit_r2 : List Cond := [Cond.instanceMethod yX1_strain, Cond.selects RX1 yX1_strain yX1_strain, Cond.code yX1_strain cX1_strain 7 (some .int), Cond.fieldLink RX1 18 "CraneReach$Rig" "plates" "I", Cond.methodLink RX1 22 yX1_drawn, Cond.instanceMethod yX1_drawn, Cond.selects RX1 yX1_drawn yX1_drawn, Cond.code yX1_drawn cX1_drawn 2 (some .int), Cond.fieldLink RX1 9 "CraneReach$Rig" "outs" "[I", Cond.methodLink RX1 40 yX1_slant, Cond.static yX1_slant, Cond.code yX1_slant cX1_slant 2 (some .int)]
def wsX0_visit : List Cond := .code yX0_visit cX0_visit 7 none :: ((wsX0_visit_r1 ++ wsX0_visit_r2) ++ wsX00 ++ wsX10)
def wsX2_turned : List Cond := .code yX2_turned cX2_turned 2 (some .int) :: ([])
def wsX0_visitBeside_r1 : List Cond := [Cond.fieldLink RX0 9 "CraneReach$Plan" "moves" "[I", Cond.static yX2_turned, Cond.initialized RX2, Cond.code yX2_turned cX2_turned 2 (some .int), Cond.methodLink RX0 22 yX0_visit, Cond.instanceMethod yX0_visit, Cond.selects RX0 yX0_visit yX0_visit, Cond.initialized RX0, Cond.code yX0_visit cX0_visit 7 none, Cond.fieldLink RX0 18 "CraneReach$Plan" "places" "I", Cond.fieldLink RX0 15 "CraneReach$Plan" "found" "[I", Cond.methodLink RX0 30 yX0_placeOf, Cond.static yX0_placeOf, Cond.code yX0_placeOf cX0_placeOf 2 (some .int), Cond.static yX2_isReach, Cond.code yX2_isReach cX2_isReach 1 (some .boolean), Cond.methodLink RX2 30 yX2_isWithin, Cond.static yX2_isWithin, Cond.code yX2_isWithin cX2_isWithin 3 (some .boolean), Cond.methodLink RX0 37 yX1_isSafe, Cond.instanceMethod yX1_isSafe, Cond.selects RX1 yX1_isSafe yX1_isSafe, Cond.initialized RX1, Cond.code yX1_isSafe cX1_isSafe 5 (some .boolean)]
def wsX0_visitBeside_r2 : List Cond := [Cond.methodLink RX1 30 yX1_allowed, Cond.instanceMethod yX1_allowed, Cond.selects RX1 yX1_allowed yX1_allowed, Cond.code yX1_allowed cX1_allowed 3 (some .int), Cond.fieldLink RX1 15 "CraneReach$Rig" "limits" "[I", Cond.methodLink RX1 36 yX1_strain, Cond.instanceMethod yX1_strain, Cond.selects RX1 yX1_strain yX1_strain, Cond.code yX1_strain cX1_strain 7 (some .int), Cond.fieldLink RX1 18 "CraneReach$Rig" "plates" "I", Cond.methodLink RX1 22 yX1_drawn, Cond.instanceMethod yX1_drawn, Cond.selects RX1 yX1_drawn yX1_drawn, Cond.code yX1_drawn cX1_drawn 2 (some .int), Cond.fieldLink RX1 9 "CraneReach$Rig" "outs" "[I", Cond.methodLink RX1 40 yX1_slant, Cond.static yX1_slant, Cond.code yX1_slant cX1_slant 2 (some .int)]
def wsX0_visitBeside : List Cond := .code yX0_visitBeside cX0_visitBeside 7 none :: ((wsX0_visitBeside_r1 ++ wsX0_visitBeside_r2) ++ wsX00 ++ wsX10)
def wsX0_spread_r1 : List Cond := [Cond.fieldLink RX0 18 "CraneReach$Plan" "places" "I", Cond.fieldLink RX0 9 "CraneReach$Plan" "moves" "[I", Cond.fieldLink RX0 15 "CraneReach$Plan" "found" "[I", Cond.methodLink RX0 22 yX0_visit, Cond.instanceMethod yX0_visit, Cond.selects RX0 yX0_visit yX0_visit, Cond.initialized RX0, Cond.code yX0_visit cX0_visit 7 none, Cond.methodLink RX0 30 yX0_placeOf, Cond.static yX0_placeOf, Cond.code yX0_placeOf cX0_placeOf 2 (some .int), Cond.static yX2_isReach, Cond.initialized RX2, Cond.code yX2_isReach cX2_isReach 1 (some .boolean), Cond.methodLink RX2 30 yX2_isWithin, Cond.static yX2_isWithin, Cond.code yX2_isWithin cX2_isWithin 3 (some .boolean), Cond.methodLink RX0 37 yX1_isSafe, Cond.instanceMethod yX1_isSafe, Cond.selects RX1 yX1_isSafe yX1_isSafe, Cond.initialized RX1, Cond.code yX1_isSafe cX1_isSafe 5 (some .boolean), Cond.methodLink RX1 30 yX1_allowed, Cond.instanceMethod yX1_allowed]
def wsX0_spread_r2 : List Cond := [Cond.selects RX1 yX1_allowed yX1_allowed, Cond.code yX1_allowed cX1_allowed 3 (some .int), Cond.fieldLink RX1 15 "CraneReach$Rig" "limits" "[I", Cond.methodLink RX1 36 yX1_strain, Cond.instanceMethod yX1_strain, Cond.selects RX1 yX1_strain yX1_strain, Cond.code yX1_strain cX1_strain 7 (some .int), Cond.fieldLink RX1 18 "CraneReach$Rig" "plates" "I", Cond.methodLink RX1 22 yX1_drawn, Cond.instanceMethod yX1_drawn, Cond.selects RX1 yX1_drawn yX1_drawn, Cond.code yX1_drawn cX1_drawn 2 (some .int), Cond.fieldLink RX1 9 "CraneReach$Rig" "outs" "[I", Cond.methodLink RX1 40 yX1_slant, Cond.static yX1_slant, Cond.code yX1_slant cX1_slant 2 (some .int), Cond.methodLink RX0 26 yX0_visitBeside, Cond.instanceMethod yX0_visitBeside, Cond.selects RX0 yX0_visitBeside yX0_visitBeside, Cond.code yX0_visitBeside cX0_visitBeside 7 none, Cond.static yX2_turned, Cond.code yX2_turned cX2_turned 2 (some .int)]
def wsX0_spread : List Cond := .code yX0_spread cX0_spread 6 (some .int) :: ((wsX0_spread_r1 ++ wsX0_spread_r2) ++ wsX00 ++ wsX10)
def wsX0_movesTo : List Cond := .code yX0_movesTo cX0_movesTo 4 (some .int) :: ([.fieldLink RX0 9 "CraneReach$Plan" "moves" "[I", .methodLink RX0 30 yX0_placeOf, .static yX0_placeOf, .initialized RX0, .code yX0_placeOf cX0_placeOf 2 (some .int), .static yX2_isReach, .initialized RX2, .code yX2_isReach cX2_isReach 1 (some .boolean), .methodLink RX2 30 yX2_isWithin, .static yX2_isWithin, .code yX2_isWithin cX2_isWithin 3 (some .boolean)] ++ wsX00)
def wsX1_init : List Cond := .code yX1_init cX1_init 2 none :: ([.methodLink RX1 3 objectInit, .instanceMethod objectInit, .code objectInit ⟨#[0xb1]⟩ 1 none, .arrayClass .int, .fieldLink RX1 9 "CraneReach$Rig" "outs" "[I", .fieldLink RX1 15 "CraneReach$Rig" "limits" "[I"] ++ wsX10)
def wsX1_draw : List Cond := .code yX1_draw cX1_draw 3 none :: ([.fieldLink RX1 9 "CraneReach$Rig" "outs" "[I"] ++ wsX10)
def wsX1_allow : List Cond := .code yX1_allow cX1_allow 4 none :: ([.fieldLink RX1 15 "CraneReach$Rig" "limits" "[I"] ++ wsX10)
def wsX1_becomeLike : List Cond := .code yX1_becomeLike cX1_becomeLike 3 none :: ([.fieldLink RX1 18 "CraneReach$Rig" "plates" "I", .methodLink RX1 22 yX1_drawn, .instanceMethod yX1_drawn, .selects RX1 yX1_drawn yX1_drawn, .initialized RX1, .code yX1_drawn cX1_drawn 2 (some .int), .fieldLink RX1 9 "CraneReach$Rig" "outs" "[I", .methodLink RX1 26 yX1_draw, .instanceMethod yX1_draw, .selects RX1 yX1_draw yX1_draw, .code yX1_draw cX1_draw 3 none, .methodLink RX1 30 yX1_allowed, .instanceMethod yX1_allowed, .selects RX1 yX1_allowed yX1_allowed, .code yX1_allowed cX1_allowed 3 (some .int), .fieldLink RX1 15 "CraneReach$Rig" "limits" "[I", .methodLink RX1 33 yX1_allow, .instanceMethod yX1_allow, .selects RX1 yX1_allow yX1_allow, .code yX1_allow cX1_allow 4 none] ++ wsX10)
def wsX2_init_r1 : List Cond := [Cond.methodLink RX2 3 objectInit, Cond.instanceMethod objectInit, Cond.code objectInit ⟨#[0xb1]⟩ 1 none, Cond.classLink RX2 9 RX1, Cond.instantiable RX1 3, Cond.initialized RX1, Cond.fieldLink RX2 12 "CraneReach" "rig" "LCraneReach$Rig;", Cond.fieldLink RX2 16 "CraneReach" "trial" "LCraneReach$Rig;", Cond.classLink RX2 19 RX0, Cond.instantiable RX0 3, Cond.initialized RX0, Cond.fieldLink RX2 22 "CraneReach" "plan" "LCraneReach$Plan;", Cond.fieldLink RX2 26 "CraneReach" "reach" "I", Cond.methodLink RX2 11 yX1_init, Cond.instanceMethod yX1_init, Cond.code yX1_init cX1_init 2 none, Cond.methodLink RX1 3 objectInit, Cond.arrayClass .int, Cond.fieldLink RX1 9 "CraneReach$Rig" "outs" "[I", Cond.fieldLink RX1 15 "CraneReach$Rig" "limits" "[I", Cond.instanceMethod yX0_init, Cond.code yX0_init cX0_init 1 none, Cond.methodLink RX0 3 objectInit, Cond.fieldLink RX0 9 "CraneReach$Plan" "moves" "[I"]
def wsX2_init_r2 : List Cond := [Cond.fieldLink RX0 15 "CraneReach$Plan" "found" "[I"]
def wsX2_init : List Cond := .code yX2_init cX2_init 1 none :: ((wsX2_init_r1 ++ wsX2_init_r2) ++ wsX10 ++ wsX20 ++ wsX00)
def wsX2_requireSafe_r1 : List Cond := [Cond.classLink RX2 91 "java/lang/IllegalStateException", Cond.initialized "java/lang/IllegalStateException", Cond.fieldLink RX2 98 "CraneReach" "direction" "I", Cond.fieldLink RX2 26 "CraneReach" "reach" "I", Cond.methodLink RX2 105 yX1_isSafe, Cond.instanceMethod yX1_isSafe, Cond.selects RX1 yX1_isSafe yX1_isSafe, Cond.initialized RX1, Cond.code yX1_isSafe cX1_isSafe 5 (some .boolean), Cond.methodLink RX1 30 yX1_allowed, Cond.instanceMethod yX1_allowed, Cond.selects RX1 yX1_allowed yX1_allowed, Cond.code yX1_allowed cX1_allowed 3 (some .int), Cond.fieldLink RX1 15 "CraneReach$Rig" "limits" "[I", Cond.methodLink RX1 36 yX1_strain, Cond.instanceMethod yX1_strain, Cond.selects RX1 yX1_strain yX1_strain, Cond.code yX1_strain cX1_strain 7 (some .int), Cond.fieldLink RX1 18 "CraneReach$Rig" "plates" "I", Cond.methodLink RX1 22 yX1_drawn, Cond.instanceMethod yX1_drawn, Cond.selects RX1 yX1_drawn yX1_drawn, Cond.code yX1_drawn cX1_drawn 2 (some .int), Cond.fieldLink RX1 9 "CraneReach$Rig" "outs" "[I"]
def wsX2_requireSafe_r2 : List Cond := [Cond.methodLink RX1 40 yX1_slant, Cond.static yX1_slant, Cond.code yX1_slant cX1_slant 2 (some .int)]
def wsX2_requireSafe : List Cond := .code yX2_requireSafe cX2_requireSafe 3 none :: ((wsX2_requireSafe_r1 ++ wsX2_requireSafe_r2) ++ wsX20 ++ wsX10 ++ (vx_atS RX2 95 "java/lang/IllegalStateException" ["java/lang/RuntimeException", "java/lang/Exception"]).filter goodWord)
def wsX2_setPlates_r1 : List Cond := [Cond.classLink RX2 34 "java/lang/IllegalArgumentException", Cond.initialized "java/lang/IllegalArgumentException", Cond.fieldLink RX2 16 "CraneReach" "trial" "LCraneReach$Rig;", Cond.fieldLink RX2 12 "CraneReach" "rig" "LCraneReach$Rig;", Cond.fieldLink RX2 45 "CraneReach$Rig" "plates" "I", Cond.fieldLink RX2 48 "CraneReach" "load" "I", Cond.methodLink RX2 30 yX2_isWithin, Cond.static yX2_isWithin, Cond.initialized RX2, Cond.code yX2_isWithin cX2_isWithin 3 (some .boolean), Cond.methodLink RX2 41 yX1_becomeLike, Cond.instanceMethod yX1_becomeLike, Cond.selects RX1 yX1_becomeLike yX1_becomeLike, Cond.initialized RX1, Cond.code yX1_becomeLike cX1_becomeLike 3 none, Cond.fieldLink RX1 18 "CraneReach$Rig" "plates" "I", Cond.methodLink RX1 22 yX1_drawn, Cond.instanceMethod yX1_drawn, Cond.selects RX1 yX1_drawn yX1_drawn, Cond.code yX1_drawn cX1_drawn 2 (some .int), Cond.fieldLink RX1 9 "CraneReach$Rig" "outs" "[I", Cond.methodLink RX1 26 yX1_draw, Cond.instanceMethod yX1_draw, Cond.selects RX1 yX1_draw yX1_draw]
def wsX2_setPlates_r2 : List Cond := [Cond.code yX1_draw cX1_draw 3 none, Cond.methodLink RX1 30 yX1_allowed, Cond.instanceMethod yX1_allowed, Cond.selects RX1 yX1_allowed yX1_allowed, Cond.code yX1_allowed cX1_allowed 3 (some .int), Cond.fieldLink RX1 15 "CraneReach$Rig" "limits" "[I", Cond.methodLink RX1 33 yX1_allow, Cond.instanceMethod yX1_allow, Cond.selects RX1 yX1_allow yX1_allow, Cond.code yX1_allow cX1_allow 4 none, Cond.methodLink RX2 51 yX2_requireSafe, Cond.instanceMethod yX2_requireSafe, Cond.selects RX2 yX2_requireSafe yX2_requireSafe, Cond.code yX2_requireSafe cX2_requireSafe 3 none, Cond.classLink RX2 91 "java/lang/IllegalStateException", Cond.initialized "java/lang/IllegalStateException", Cond.fieldLink RX2 98 "CraneReach" "direction" "I", Cond.fieldLink RX2 26 "CraneReach" "reach" "I", Cond.methodLink RX2 105 yX1_isSafe, Cond.instanceMethod yX1_isSafe, Cond.selects RX1 yX1_isSafe yX1_isSafe, Cond.code yX1_isSafe cX1_isSafe 5 (some .boolean), Cond.methodLink RX1 36 yX1_strain, Cond.instanceMethod yX1_strain]
def wsX2_setPlates_r3 : List Cond := [Cond.selects RX1 yX1_strain yX1_strain, Cond.code yX1_strain cX1_strain 7 (some .int), Cond.methodLink RX1 40 yX1_slant, Cond.static yX1_slant, Cond.code yX1_slant cX1_slant 2 (some .int)]
def wsX2_setPlates : List Cond := .code yX2_setPlates cX2_setPlates 3 (some .int) :: ((wsX2_setPlates_r1 ++ (wsX2_setPlates_r2 ++ wsX2_setPlates_r3)) ++ wsX20 ++ wsX10 ++ (vx_atS RX2 38 "java/lang/IllegalArgumentException" ["java/lang/RuntimeException", "java/lang/Exception"]).filter goodWord ++ (vx_atS RX2 95 "java/lang/IllegalStateException" ["java/lang/RuntimeException", "java/lang/Exception"]).filter goodWord)
def wsX2_requireSide : List Cond := .code yX2_requireSide cX2_requireSide 1 none :: ([.classLink RX2 159 "java/lang/IndexOutOfBoundsException", .initialized "java/lang/IndexOutOfBoundsException", .methodLink RX2 30 yX2_isWithin, .static yX2_isWithin, .initialized RX2, .code yX2_isWithin cX2_isWithin 3 (some .boolean)] ++ (vx_atS RX2 163 "java/lang/IndexOutOfBoundsException" ["java/lang/RuntimeException", "java/lang/Exception"]).filter goodWord)
def wsX2_requireNoLoad : List Cond := .code yX2_requireNoLoad cX2_requireNoLoad 1 none :: ([.classLink RX2 91 "java/lang/IllegalStateException", .initialized "java/lang/IllegalStateException", .fieldLink RX2 48 "CraneReach" "load" "I"] ++ wsX20 ++ (vx_atS RX2 95 "java/lang/IllegalStateException" ["java/lang/RuntimeException", "java/lang/Exception"]).filter goodWord)
def wsX2_setOutrigger_r1 : List Cond := [Cond.classLink RX2 34 "java/lang/IllegalArgumentException", Cond.initialized "java/lang/IllegalArgumentException", Cond.fieldLink RX2 16 "CraneReach" "trial" "LCraneReach$Rig;", Cond.fieldLink RX2 12 "CraneReach" "rig" "LCraneReach$Rig;", Cond.fieldLink RX2 48 "CraneReach" "load" "I", Cond.methodLink RX2 55 yX2_requireSide, Cond.static yX2_requireSide, Cond.initialized RX2, Cond.code yX2_requireSide cX2_requireSide 1 none, Cond.classLink RX2 159 "java/lang/IndexOutOfBoundsException", Cond.initialized "java/lang/IndexOutOfBoundsException", Cond.methodLink RX2 30 yX2_isWithin, Cond.static yX2_isWithin, Cond.code yX2_isWithin cX2_isWithin 3 (some .boolean), Cond.methodLink RX2 61 yX2_requireNoLoad, Cond.instanceMethod yX2_requireNoLoad, Cond.selects RX2 yX2_requireNoLoad yX2_requireNoLoad, Cond.code yX2_requireNoLoad cX2_requireNoLoad 1 none, Cond.classLink RX2 91 "java/lang/IllegalStateException", Cond.initialized "java/lang/IllegalStateException", Cond.methodLink RX2 41 yX1_becomeLike, Cond.instanceMethod yX1_becomeLike, Cond.selects RX1 yX1_becomeLike yX1_becomeLike, Cond.initialized RX1]
def wsX2_setOutrigger_r2 : List Cond := [Cond.code yX1_becomeLike cX1_becomeLike 3 none, Cond.fieldLink RX1 18 "CraneReach$Rig" "plates" "I", Cond.methodLink RX1 22 yX1_drawn, Cond.instanceMethod yX1_drawn, Cond.selects RX1 yX1_drawn yX1_drawn, Cond.code yX1_drawn cX1_drawn 2 (some .int), Cond.fieldLink RX1 9 "CraneReach$Rig" "outs" "[I", Cond.methodLink RX1 26 yX1_draw, Cond.instanceMethod yX1_draw, Cond.selects RX1 yX1_draw yX1_draw, Cond.code yX1_draw cX1_draw 3 none, Cond.methodLink RX1 30 yX1_allowed, Cond.instanceMethod yX1_allowed, Cond.selects RX1 yX1_allowed yX1_allowed, Cond.code yX1_allowed cX1_allowed 3 (some .int), Cond.fieldLink RX1 15 "CraneReach$Rig" "limits" "[I", Cond.methodLink RX1 33 yX1_allow, Cond.instanceMethod yX1_allow, Cond.selects RX1 yX1_allow yX1_allow, Cond.code yX1_allow cX1_allow 4 none, Cond.methodLink RX2 64 yX1_draw, Cond.methodLink RX2 51 yX2_requireSafe, Cond.instanceMethod yX2_requireSafe, Cond.selects RX2 yX2_requireSafe yX2_requireSafe]
def wsX2_setOutrigger_r3 : List Cond := [Cond.code yX2_requireSafe cX2_requireSafe 3 none, Cond.fieldLink RX2 98 "CraneReach" "direction" "I", Cond.fieldLink RX2 26 "CraneReach" "reach" "I", Cond.methodLink RX2 105 yX1_isSafe, Cond.instanceMethod yX1_isSafe, Cond.selects RX1 yX1_isSafe yX1_isSafe, Cond.code yX1_isSafe cX1_isSafe 5 (some .boolean), Cond.methodLink RX1 36 yX1_strain, Cond.instanceMethod yX1_strain, Cond.selects RX1 yX1_strain yX1_strain, Cond.code yX1_strain cX1_strain 7 (some .int), Cond.methodLink RX1 40 yX1_slant, Cond.static yX1_slant, Cond.code yX1_slant cX1_slant 2 (some .int), Cond.methodLink RX2 68 yX1_drawn]
def wsX2_setOutrigger : List Cond := .code yX2_setOutrigger cX2_setOutrigger 4 (some .int) :: ((wsX2_setOutrigger_r1 ++ (wsX2_setOutrigger_r2 ++ wsX2_setOutrigger_r3)) ++ wsX20 ++ wsX10 ++ (vx_atS RX2 38 "java/lang/IllegalArgumentException" ["java/lang/RuntimeException", "java/lang/Exception"]).filter goodWord ++ (vx_atS RX2 163 "java/lang/IndexOutOfBoundsException" ["java/lang/RuntimeException", "java/lang/Exception"]).filter goodWord ++ (vx_atS RX2 95 "java/lang/IllegalStateException" ["java/lang/RuntimeException", "java/lang/Exception"]).filter goodWord)
def wsX2_requireReach : List Cond := .code yX2_requireReach cX2_requireReach 1 none :: ([.classLink RX2 34 "java/lang/IllegalArgumentException", .initialized "java/lang/IllegalArgumentException", .methodLink RX2 113 yX2_isReach, .static yX2_isReach, .initialized RX2, .code yX2_isReach cX2_isReach 1 (some .boolean), .methodLink RX2 30 yX2_isWithin, .static yX2_isWithin, .code yX2_isWithin cX2_isWithin 3 (some .boolean)] ++ (vx_atS RX2 38 "java/lang/IllegalArgumentException" ["java/lang/RuntimeException", "java/lang/Exception"]).filter goodWord)
def wsX2_setLimit_r1 : List Cond := [Cond.classLink RX2 34 "java/lang/IllegalArgumentException", Cond.initialized "java/lang/IllegalArgumentException", Cond.fieldLink RX2 16 "CraneReach" "trial" "LCraneReach$Rig;", Cond.fieldLink RX2 12 "CraneReach" "rig" "LCraneReach$Rig;", Cond.fieldLink RX2 48 "CraneReach" "load" "I", Cond.methodLink RX2 72 yX2_requireReach, Cond.static yX2_requireReach, Cond.initialized RX2, Cond.code yX2_requireReach cX2_requireReach 1 none, Cond.methodLink RX2 113 yX2_isReach, Cond.static yX2_isReach, Cond.code yX2_isReach cX2_isReach 1 (some .boolean), Cond.methodLink RX2 30 yX2_isWithin, Cond.static yX2_isWithin, Cond.code yX2_isWithin cX2_isWithin 3 (some .boolean), Cond.methodLink RX2 41 yX1_becomeLike, Cond.instanceMethod yX1_becomeLike, Cond.selects RX1 yX1_becomeLike yX1_becomeLike, Cond.initialized RX1, Cond.code yX1_becomeLike cX1_becomeLike 3 none, Cond.fieldLink RX1 18 "CraneReach$Rig" "plates" "I", Cond.methodLink RX1 22 yX1_drawn, Cond.instanceMethod yX1_drawn, Cond.selects RX1 yX1_drawn yX1_drawn]
def wsX2_setLimit_r2 : List Cond := [Cond.code yX1_drawn cX1_drawn 2 (some .int), Cond.fieldLink RX1 9 "CraneReach$Rig" "outs" "[I", Cond.methodLink RX1 26 yX1_draw, Cond.instanceMethod yX1_draw, Cond.selects RX1 yX1_draw yX1_draw, Cond.code yX1_draw cX1_draw 3 none, Cond.methodLink RX1 30 yX1_allowed, Cond.instanceMethod yX1_allowed, Cond.selects RX1 yX1_allowed yX1_allowed, Cond.code yX1_allowed cX1_allowed 3 (some .int), Cond.fieldLink RX1 15 "CraneReach$Rig" "limits" "[I", Cond.methodLink RX1 33 yX1_allow, Cond.instanceMethod yX1_allow, Cond.selects RX1 yX1_allow yX1_allow, Cond.code yX1_allow cX1_allow 4 none, Cond.methodLink RX2 77 yX1_allow, Cond.methodLink RX2 51 yX2_requireSafe, Cond.instanceMethod yX2_requireSafe, Cond.selects RX2 yX2_requireSafe yX2_requireSafe, Cond.code yX2_requireSafe cX2_requireSafe 3 none, Cond.classLink RX2 91 "java/lang/IllegalStateException", Cond.initialized "java/lang/IllegalStateException", Cond.fieldLink RX2 98 "CraneReach" "direction" "I", Cond.fieldLink RX2 26 "CraneReach" "reach" "I"]
def wsX2_setLimit_r3 : List Cond := [Cond.methodLink RX2 105 yX1_isSafe, Cond.instanceMethod yX1_isSafe, Cond.selects RX1 yX1_isSafe yX1_isSafe, Cond.code yX1_isSafe cX1_isSafe 5 (some .boolean), Cond.methodLink RX1 36 yX1_strain, Cond.instanceMethod yX1_strain, Cond.selects RX1 yX1_strain yX1_strain, Cond.code yX1_strain cX1_strain 7 (some .int), Cond.methodLink RX1 40 yX1_slant, Cond.static yX1_slant, Cond.code yX1_slant cX1_slant 2 (some .int), Cond.methodLink RX2 80 yX1_allowed]
def wsX2_setLimit : List Cond := .code yX2_setLimit cX2_setLimit 4 (some .int) :: ((wsX2_setLimit_r1 ++ (wsX2_setLimit_r2 ++ wsX2_setLimit_r3)) ++ wsX20 ++ wsX10 ++ (vx_atS RX2 38 "java/lang/IllegalArgumentException" ["java/lang/RuntimeException", "java/lang/Exception"]).filter goodWord ++ (vx_atS RX2 95 "java/lang/IllegalStateException" ["java/lang/RuntimeException", "java/lang/Exception"]).filter goodWord)
def wsX2_lift_r1 : List Cond := [Cond.classLink RX2 34 "java/lang/IllegalArgumentException", Cond.initialized "java/lang/IllegalArgumentException", Cond.fieldLink RX2 12 "CraneReach" "rig" "LCraneReach$Rig;", Cond.fieldLink RX2 48 "CraneReach" "load" "I", Cond.fieldLink RX2 85 "CraneReach" "lifts" "I", Cond.fieldLink RX2 88 "CraneReach" "tonsLifted" "I", Cond.methodLink RX2 30 yX2_isWithin, Cond.static yX2_isWithin, Cond.initialized RX2, Cond.code yX2_isWithin cX2_isWithin 3 (some .boolean), Cond.methodLink RX2 61 yX2_requireNoLoad, Cond.instanceMethod yX2_requireNoLoad, Cond.selects RX2 yX2_requireNoLoad yX2_requireNoLoad, Cond.code yX2_requireNoLoad cX2_requireNoLoad 1 none, Cond.classLink RX2 91 "java/lang/IllegalStateException", Cond.initialized "java/lang/IllegalStateException", Cond.methodLink RX2 51 yX2_requireSafe, Cond.instanceMethod yX2_requireSafe, Cond.selects RX2 yX2_requireSafe yX2_requireSafe, Cond.code yX2_requireSafe cX2_requireSafe 3 none, Cond.fieldLink RX2 98 "CraneReach" "direction" "I", Cond.fieldLink RX2 26 "CraneReach" "reach" "I", Cond.methodLink RX2 105 yX1_isSafe, Cond.instanceMethod yX1_isSafe]
def wsX2_lift_r2 : List Cond := [Cond.selects RX1 yX1_isSafe yX1_isSafe, Cond.initialized RX1, Cond.code yX1_isSafe cX1_isSafe 5 (some .boolean), Cond.methodLink RX1 30 yX1_allowed, Cond.instanceMethod yX1_allowed, Cond.selects RX1 yX1_allowed yX1_allowed, Cond.code yX1_allowed cX1_allowed 3 (some .int), Cond.fieldLink RX1 15 "CraneReach$Rig" "limits" "[I", Cond.methodLink RX1 36 yX1_strain, Cond.instanceMethod yX1_strain, Cond.selects RX1 yX1_strain yX1_strain, Cond.code yX1_strain cX1_strain 7 (some .int), Cond.fieldLink RX1 18 "CraneReach$Rig" "plates" "I", Cond.methodLink RX1 22 yX1_drawn, Cond.instanceMethod yX1_drawn, Cond.selects RX1 yX1_drawn yX1_drawn, Cond.code yX1_drawn cX1_drawn 2 (some .int), Cond.fieldLink RX1 9 "CraneReach$Rig" "outs" "[I", Cond.methodLink RX1 40 yX1_slant, Cond.static yX1_slant, Cond.code yX1_slant cX1_slant 2 (some .int)]
def wsX2_lift : List Cond := .code yX2_lift cX2_lift 2 (some .int) :: ((wsX2_lift_r1 ++ wsX2_lift_r2) ++ wsX20 ++ wsX10 ++ (vx_atS RX2 38 "java/lang/IllegalArgumentException" ["java/lang/RuntimeException", "java/lang/Exception"]).filter goodWord ++ (vx_atS RX2 95 "java/lang/IllegalStateException" ["java/lang/RuntimeException", "java/lang/Exception"]).filter goodWord)
def wsX2_setDown_r1 : List Cond := [Cond.classLink RX2 91 "java/lang/IllegalStateException", Cond.initialized "java/lang/IllegalStateException", Cond.fieldLink RX2 48 "CraneReach" "load" "I", Cond.fieldLink RX2 12 "CraneReach" "rig" "LCraneReach$Rig;", Cond.methodLink RX2 51 yX2_requireSafe, Cond.instanceMethod yX2_requireSafe, Cond.selects RX2 yX2_requireSafe yX2_requireSafe, Cond.initialized RX2, Cond.code yX2_requireSafe cX2_requireSafe 3 none, Cond.fieldLink RX2 98 "CraneReach" "direction" "I", Cond.fieldLink RX2 26 "CraneReach" "reach" "I", Cond.methodLink RX2 105 yX1_isSafe, Cond.instanceMethod yX1_isSafe, Cond.selects RX1 yX1_isSafe yX1_isSafe, Cond.initialized RX1, Cond.code yX1_isSafe cX1_isSafe 5 (some .boolean), Cond.methodLink RX1 30 yX1_allowed, Cond.instanceMethod yX1_allowed, Cond.selects RX1 yX1_allowed yX1_allowed, Cond.code yX1_allowed cX1_allowed 3 (some .int), Cond.fieldLink RX1 15 "CraneReach$Rig" "limits" "[I", Cond.methodLink RX1 36 yX1_strain, Cond.instanceMethod yX1_strain, Cond.selects RX1 yX1_strain yX1_strain]
def wsX2_setDown_r2 : List Cond := [Cond.code yX1_strain cX1_strain 7 (some .int), Cond.fieldLink RX1 18 "CraneReach$Rig" "plates" "I", Cond.methodLink RX1 22 yX1_drawn, Cond.instanceMethod yX1_drawn, Cond.selects RX1 yX1_drawn yX1_drawn, Cond.code yX1_drawn cX1_drawn 2 (some .int), Cond.fieldLink RX1 9 "CraneReach$Rig" "outs" "[I", Cond.methodLink RX1 40 yX1_slant, Cond.static yX1_slant, Cond.code yX1_slant cX1_slant 2 (some .int)]
def wsX2_setDown : List Cond := .code yX2_setDown cX2_setDown 2 (some .int) :: ((wsX2_setDown_r1 ++ wsX2_setDown_r2) ++ wsX20 ++ wsX10 ++ (vx_atS RX2 95 "java/lang/IllegalStateException" ["java/lang/RuntimeException", "java/lang/Exception"]).filter goodWord)
def wsX2_countMoves : List Cond := .code yX2_countMoves cX2_countMoves 2 none :: ([.fieldLink RX2 48 "CraneReach" "load" "I", .fieldLink RX2 121 "CraneReach" "movesWithLoad" "I"] ++ wsX20)
def wsX2_swing_r1 : List Cond := [Cond.classLink RX2 34 "java/lang/IllegalArgumentException", Cond.initialized "java/lang/IllegalArgumentException", Cond.fieldLink RX2 12 "CraneReach" "rig" "LCraneReach$Rig;", Cond.fieldLink RX2 48 "CraneReach" "load" "I", Cond.fieldLink RX2 98 "CraneReach" "direction" "I", Cond.fieldLink RX2 26 "CraneReach" "reach" "I", Cond.methodLink RX2 30 yX2_isWithin, Cond.static yX2_isWithin, Cond.initialized RX2, Cond.code yX2_isWithin cX2_isWithin 3 (some .boolean), Cond.methodLink RX2 101 yX2_turned, Cond.static yX2_turned, Cond.code yX2_turned cX2_turned 2 (some .int), Cond.methodLink RX2 105 yX1_isSafe, Cond.instanceMethod yX1_isSafe, Cond.selects RX1 yX1_isSafe yX1_isSafe, Cond.initialized RX1, Cond.code yX1_isSafe cX1_isSafe 5 (some .boolean), Cond.methodLink RX1 30 yX1_allowed, Cond.instanceMethod yX1_allowed, Cond.selects RX1 yX1_allowed yX1_allowed, Cond.code yX1_allowed cX1_allowed 3 (some .int), Cond.fieldLink RX1 15 "CraneReach$Rig" "limits" "[I", Cond.methodLink RX1 36 yX1_strain]
def wsX2_swing_r2 : List Cond := [Cond.instanceMethod yX1_strain, Cond.selects RX1 yX1_strain yX1_strain, Cond.code yX1_strain cX1_strain 7 (some .int), Cond.fieldLink RX1 18 "CraneReach$Rig" "plates" "I", Cond.methodLink RX1 22 yX1_drawn, Cond.instanceMethod yX1_drawn, Cond.selects RX1 yX1_drawn yX1_drawn, Cond.code yX1_drawn cX1_drawn 2 (some .int), Cond.fieldLink RX1 9 "CraneReach$Rig" "outs" "[I", Cond.methodLink RX1 40 yX1_slant, Cond.static yX1_slant, Cond.code yX1_slant cX1_slant 2 (some .int), Cond.methodLink RX2 108 yX2_countMoves, Cond.instanceMethod yX2_countMoves, Cond.selects RX2 yX2_countMoves yX2_countMoves, Cond.code yX2_countMoves cX2_countMoves 2 none, Cond.fieldLink RX2 121 "CraneReach" "movesWithLoad" "I"]
def wsX2_swing : List Cond := .code yX2_swing cX2_swing 5 (some .int) :: ((wsX2_swing_r1 ++ wsX2_swing_r2) ++ wsX20 ++ wsX10 ++ (vx_atS RX2 38 "java/lang/IllegalArgumentException" ["java/lang/RuntimeException", "java/lang/Exception"]).filter goodWord)
def wsX2_stretch_r1 : List Cond := [Cond.classLink RX2 34 "java/lang/IllegalArgumentException", Cond.initialized "java/lang/IllegalArgumentException", Cond.fieldLink RX2 26 "CraneReach" "reach" "I", Cond.fieldLink RX2 12 "CraneReach" "rig" "LCraneReach$Rig;", Cond.fieldLink RX2 48 "CraneReach" "load" "I", Cond.fieldLink RX2 98 "CraneReach" "direction" "I", Cond.methodLink RX2 30 yX2_isWithin, Cond.static yX2_isWithin, Cond.initialized RX2, Cond.code yX2_isWithin cX2_isWithin 3 (some .boolean), Cond.methodLink RX2 113 yX2_isReach, Cond.static yX2_isReach, Cond.code yX2_isReach cX2_isReach 1 (some .boolean), Cond.methodLink RX2 105 yX1_isSafe, Cond.instanceMethod yX1_isSafe, Cond.selects RX1 yX1_isSafe yX1_isSafe, Cond.initialized RX1, Cond.code yX1_isSafe cX1_isSafe 5 (some .boolean), Cond.methodLink RX1 30 yX1_allowed, Cond.instanceMethod yX1_allowed, Cond.selects RX1 yX1_allowed yX1_allowed, Cond.code yX1_allowed cX1_allowed 3 (some .int), Cond.fieldLink RX1 15 "CraneReach$Rig" "limits" "[I", Cond.methodLink RX1 36 yX1_strain]
def wsX2_stretch_r2 : List Cond := [Cond.instanceMethod yX1_strain, Cond.selects RX1 yX1_strain yX1_strain, Cond.code yX1_strain cX1_strain 7 (some .int), Cond.fieldLink RX1 18 "CraneReach$Rig" "plates" "I", Cond.methodLink RX1 22 yX1_drawn, Cond.instanceMethod yX1_drawn, Cond.selects RX1 yX1_drawn yX1_drawn, Cond.code yX1_drawn cX1_drawn 2 (some .int), Cond.fieldLink RX1 9 "CraneReach$Rig" "outs" "[I", Cond.methodLink RX1 40 yX1_slant, Cond.static yX1_slant, Cond.code yX1_slant cX1_slant 2 (some .int), Cond.methodLink RX2 108 yX2_countMoves, Cond.instanceMethod yX2_countMoves, Cond.selects RX2 yX2_countMoves yX2_countMoves, Cond.code yX2_countMoves cX2_countMoves 2 none, Cond.fieldLink RX2 121 "CraneReach" "movesWithLoad" "I"]
def wsX2_stretch : List Cond := .code yX2_stretch cX2_stretch 5 (some .int) :: ((wsX2_stretch_r1 ++ wsX2_stretch_r2) ++ wsX20 ++ wsX10 ++ (vx_atS RX2 38 "java/lang/IllegalArgumentException" ["java/lang/RuntimeException", "java/lang/Exception"]).filter goodWord)
def wsX2_direction : List Cond := .code yX2_direction cX2_direction 1 (some .int) :: ([.fieldLink RX2 98 "CraneReach" "direction" "I"] ++ wsX20)
def wsX2_reach : List Cond := .code yX2_reach cX2_reach 1 (some .int) :: ([.fieldLink RX2 26 "CraneReach" "reach" "I"] ++ wsX20)
def wsX2_load : List Cond := .code yX2_load cX2_load 1 (some .int) :: ([.fieldLink RX2 48 "CraneReach" "load" "I"] ++ wsX20)
def wsX2_plates : List Cond := .code yX2_plates cX2_plates 1 (some .int) :: ([.fieldLink RX2 12 "CraneReach" "rig" "LCraneReach$Rig;", .fieldLink RX2 45 "CraneReach$Rig" "plates" "I"] ++ wsX20 ++ wsX10)
def wsX2_outrigger : List Cond := .code yX2_outrigger cX2_outrigger 2 (some .int) :: ([.fieldLink RX2 12 "CraneReach" "rig" "LCraneReach$Rig;", .methodLink RX2 55 yX2_requireSide, .static yX2_requireSide, .initialized RX2, .code yX2_requireSide cX2_requireSide 1 none, .classLink RX2 159 "java/lang/IndexOutOfBoundsException", .initialized "java/lang/IndexOutOfBoundsException", .methodLink RX2 30 yX2_isWithin, .static yX2_isWithin, .code yX2_isWithin cX2_isWithin 3 (some .boolean), .methodLink RX2 68 yX1_drawn, .instanceMethod yX1_drawn, .selects RX1 yX1_drawn yX1_drawn, .initialized RX1, .code yX1_drawn cX1_drawn 2 (some .int), .fieldLink RX1 9 "CraneReach$Rig" "outs" "[I"] ++ wsX20 ++ wsX10 ++ (vx_atS RX2 163 "java/lang/IndexOutOfBoundsException" ["java/lang/RuntimeException", "java/lang/Exception"]).filter goodWord)
def wsX2_limitAt : List Cond := .code yX2_limitAt cX2_limitAt 2 (some .int) :: ([.fieldLink RX2 12 "CraneReach" "rig" "LCraneReach$Rig;", .methodLink RX2 72 yX2_requireReach, .static yX2_requireReach, .initialized RX2, .code yX2_requireReach cX2_requireReach 1 none, .classLink RX2 34 "java/lang/IllegalArgumentException", .initialized "java/lang/IllegalArgumentException", .methodLink RX2 113 yX2_isReach, .static yX2_isReach, .code yX2_isReach cX2_isReach 1 (some .boolean), .methodLink RX2 30 yX2_isWithin, .static yX2_isWithin, .code yX2_isWithin cX2_isWithin 3 (some .boolean), .methodLink RX2 80 yX1_allowed, .instanceMethod yX1_allowed, .selects RX1 yX1_allowed yX1_allowed, .initialized RX1, .code yX1_allowed cX1_allowed 3 (some .int), .fieldLink RX1 15 "CraneReach$Rig" "limits" "[I"] ++ wsX20 ++ wsX10 ++ (vx_atS RX2 38 "java/lang/IllegalArgumentException" ["java/lang/RuntimeException", "java/lang/Exception"]).filter goodWord)
def wsX2_strainOn_r1 : List Cond := [Cond.fieldLink RX2 12 "CraneReach" "rig" "LCraneReach$Rig;", Cond.fieldLink RX2 48 "CraneReach" "load" "I", Cond.fieldLink RX2 98 "CraneReach" "direction" "I", Cond.fieldLink RX2 26 "CraneReach" "reach" "I", Cond.methodLink RX2 55 yX2_requireSide, Cond.static yX2_requireSide, Cond.initialized RX2, Cond.code yX2_requireSide cX2_requireSide 1 none, Cond.classLink RX2 159 "java/lang/IndexOutOfBoundsException", Cond.initialized "java/lang/IndexOutOfBoundsException", Cond.methodLink RX2 30 yX2_isWithin, Cond.static yX2_isWithin, Cond.code yX2_isWithin cX2_isWithin 3 (some .boolean), Cond.methodLink RX2 117 yX1_strain, Cond.instanceMethod yX1_strain, Cond.selects RX1 yX1_strain yX1_strain, Cond.initialized RX1, Cond.code yX1_strain cX1_strain 7 (some .int), Cond.fieldLink RX1 18 "CraneReach$Rig" "plates" "I", Cond.methodLink RX1 22 yX1_drawn, Cond.instanceMethod yX1_drawn, Cond.selects RX1 yX1_drawn yX1_drawn, Cond.code yX1_drawn cX1_drawn 2 (some .int), Cond.fieldLink RX1 9 "CraneReach$Rig" "outs" "[I"]
def wsX2_strainOn_r2 : List Cond := [Cond.methodLink RX1 40 yX1_slant, Cond.static yX1_slant, Cond.code yX1_slant cX1_slant 2 (some .int)]
def wsX2_strainOn : List Cond := .code yX2_strainOn cX2_strainOn 2 (some .int) :: ((wsX2_strainOn_r1 ++ wsX2_strainOn_r2) ++ wsX20 ++ wsX10 ++ (vx_atS RX2 163 "java/lang/IndexOutOfBoundsException" ["java/lang/RuntimeException", "java/lang/Exception"]).filter goodWord)
def wsX2_weakestSide : List Cond := .code yX2_weakestSide cX2_weakestSide 5 (some .int) :: ([.fieldLink RX2 12 "CraneReach" "rig" "LCraneReach$Rig;", .fieldLink RX2 48 "CraneReach" "load" "I", .fieldLink RX2 98 "CraneReach" "direction" "I", .fieldLink RX2 26 "CraneReach" "reach" "I", .methodLink RX2 117 yX1_strain, .instanceMethod yX1_strain, .selects RX1 yX1_strain yX1_strain, .initialized RX1, .code yX1_strain cX1_strain 7 (some .int), .fieldLink RX1 18 "CraneReach$Rig" "plates" "I", .methodLink RX1 22 yX1_drawn, .instanceMethod yX1_drawn, .selects RX1 yX1_drawn yX1_drawn, .code yX1_drawn cX1_drawn 2 (some .int), .fieldLink RX1 9 "CraneReach$Rig" "outs" "[I", .methodLink RX1 40 yX1_slant, .static yX1_slant, .code yX1_slant cX1_slant 2 (some .int)] ++ wsX20 ++ wsX10)
def wsX2_lifts : List Cond := .code yX2_lifts cX2_lifts 1 (some .int) :: ([.fieldLink RX2 85 "CraneReach" "lifts" "I"] ++ wsX20)
def wsX2_tonsLifted : List Cond := .code yX2_tonsLifted cX2_tonsLifted 1 (some .int) :: ([.fieldLink RX2 88 "CraneReach" "tonsLifted" "I"] ++ wsX20)
def wsX2_movesWithLoad : List Cond := .code yX2_movesWithLoad cX2_movesWithLoad 1 (some .int) :: ([.fieldLink RX2 121 "CraneReach" "movesWithLoad" "I"] ++ wsX20)
def wsX2_requireDirection : List Cond := .code yX2_requireDirection cX2_requireDirection 1 none :: ([.classLink RX2 159 "java/lang/IndexOutOfBoundsException", .initialized "java/lang/IndexOutOfBoundsException", .methodLink RX2 30 yX2_isWithin, .static yX2_isWithin, .initialized RX2, .code yX2_isWithin cX2_isWithin 3 (some .boolean)] ++ (vx_atS RX2 163 "java/lang/IndexOutOfBoundsException" ["java/lang/RuntimeException", "java/lang/Exception"]).filter goodWord)
def wsX2_requireLoad : List Cond := .code yX2_requireLoad cX2_requireLoad 1 none :: ([.classLink RX2 34 "java/lang/IllegalArgumentException", .initialized "java/lang/IllegalArgumentException", .methodLink RX2 30 yX2_isWithin, .static yX2_isWithin, .initialized RX2, .code yX2_isWithin cX2_isWithin 3 (some .boolean)] ++ (vx_atS RX2 38 "java/lang/IllegalArgumentException" ["java/lang/RuntimeException", "java/lang/Exception"]).filter goodWord)
def wsX2_isSafeWith_r1 : List Cond := [Cond.fieldLink RX2 12 "CraneReach" "rig" "LCraneReach$Rig;", Cond.methodLink RX2 124 yX2_requireDirection, Cond.static yX2_requireDirection, Cond.initialized RX2, Cond.code yX2_requireDirection cX2_requireDirection 1 none, Cond.classLink RX2 159 "java/lang/IndexOutOfBoundsException", Cond.initialized "java/lang/IndexOutOfBoundsException", Cond.methodLink RX2 30 yX2_isWithin, Cond.static yX2_isWithin, Cond.code yX2_isWithin cX2_isWithin 3 (some .boolean), Cond.methodLink RX2 127 yX2_requireLoad, Cond.static yX2_requireLoad, Cond.code yX2_requireLoad cX2_requireLoad 1 none, Cond.classLink RX2 34 "java/lang/IllegalArgumentException", Cond.initialized "java/lang/IllegalArgumentException", Cond.methodLink RX2 72 yX2_requireReach, Cond.static yX2_requireReach, Cond.code yX2_requireReach cX2_requireReach 1 none, Cond.methodLink RX2 113 yX2_isReach, Cond.static yX2_isReach, Cond.code yX2_isReach cX2_isReach 1 (some .boolean), Cond.methodLink RX2 105 yX1_isSafe, Cond.instanceMethod yX1_isSafe, Cond.selects RX1 yX1_isSafe yX1_isSafe]
def wsX2_isSafeWith_r2 : List Cond := [Cond.initialized RX1, Cond.code yX1_isSafe cX1_isSafe 5 (some .boolean), Cond.methodLink RX1 30 yX1_allowed, Cond.instanceMethod yX1_allowed, Cond.selects RX1 yX1_allowed yX1_allowed, Cond.code yX1_allowed cX1_allowed 3 (some .int), Cond.fieldLink RX1 15 "CraneReach$Rig" "limits" "[I", Cond.methodLink RX1 36 yX1_strain, Cond.instanceMethod yX1_strain, Cond.selects RX1 yX1_strain yX1_strain, Cond.code yX1_strain cX1_strain 7 (some .int), Cond.fieldLink RX1 18 "CraneReach$Rig" "plates" "I", Cond.methodLink RX1 22 yX1_drawn, Cond.instanceMethod yX1_drawn, Cond.selects RX1 yX1_drawn yX1_drawn, Cond.code yX1_drawn cX1_drawn 2 (some .int), Cond.fieldLink RX1 9 "CraneReach$Rig" "outs" "[I", Cond.methodLink RX1 40 yX1_slant, Cond.static yX1_slant, Cond.code yX1_slant cX1_slant 2 (some .int)]
def wsX2_isSafeWith : List Cond := .code yX2_isSafeWith cX2_isSafeWith 4 (some .boolean) :: ((wsX2_isSafeWith_r1 ++ wsX2_isSafeWith_r2) ++ wsX20 ++ wsX10 ++ (vx_atS RX2 163 "java/lang/IndexOutOfBoundsException" ["java/lang/RuntimeException", "java/lang/Exception"]).filter goodWord ++ (vx_atS RX2 38 "java/lang/IllegalArgumentException" ["java/lang/RuntimeException", "java/lang/Exception"]).filter goodWord)
def wsX2_greatestLoad_r1 : List Cond := [Cond.fieldLink RX2 12 "CraneReach" "rig" "LCraneReach$Rig;", Cond.fieldLink RX2 98 "CraneReach" "direction" "I", Cond.fieldLink RX2 26 "CraneReach" "reach" "I", Cond.methodLink RX2 105 yX1_isSafe, Cond.instanceMethod yX1_isSafe, Cond.selects RX1 yX1_isSafe yX1_isSafe, Cond.initialized RX1, Cond.code yX1_isSafe cX1_isSafe 5 (some .boolean), Cond.methodLink RX1 30 yX1_allowed, Cond.instanceMethod yX1_allowed, Cond.selects RX1 yX1_allowed yX1_allowed, Cond.code yX1_allowed cX1_allowed 3 (some .int), Cond.fieldLink RX1 15 "CraneReach$Rig" "limits" "[I", Cond.methodLink RX1 36 yX1_strain, Cond.instanceMethod yX1_strain, Cond.selects RX1 yX1_strain yX1_strain, Cond.code yX1_strain cX1_strain 7 (some .int), Cond.fieldLink RX1 18 "CraneReach$Rig" "plates" "I", Cond.methodLink RX1 22 yX1_drawn, Cond.instanceMethod yX1_drawn, Cond.selects RX1 yX1_drawn yX1_drawn, Cond.code yX1_drawn cX1_drawn 2 (some .int), Cond.fieldLink RX1 9 "CraneReach$Rig" "outs" "[I", Cond.methodLink RX1 40 yX1_slant]
def wsX2_greatestLoad_r2 : List Cond := [Cond.static yX1_slant, Cond.code yX1_slant cX1_slant 2 (some .int)]
def wsX2_greatestLoad : List Cond := .code yX2_greatestLoad cX2_greatestLoad 2 (some .int) :: ((wsX2_greatestLoad_r1 ++ wsX2_greatestLoad_r2) ++ wsX20 ++ wsX10)
def wsX2_farthestReach_r1 : List Cond := [Cond.fieldLink RX2 12 "CraneReach" "rig" "LCraneReach$Rig;", Cond.methodLink RX2 124 yX2_requireDirection, Cond.static yX2_requireDirection, Cond.initialized RX2, Cond.code yX2_requireDirection cX2_requireDirection 1 none, Cond.classLink RX2 159 "java/lang/IndexOutOfBoundsException", Cond.initialized "java/lang/IndexOutOfBoundsException", Cond.methodLink RX2 30 yX2_isWithin, Cond.static yX2_isWithin, Cond.code yX2_isWithin cX2_isWithin 3 (some .boolean), Cond.methodLink RX2 127 yX2_requireLoad, Cond.static yX2_requireLoad, Cond.code yX2_requireLoad cX2_requireLoad 1 none, Cond.classLink RX2 34 "java/lang/IllegalArgumentException", Cond.initialized "java/lang/IllegalArgumentException", Cond.methodLink RX2 105 yX1_isSafe, Cond.instanceMethod yX1_isSafe, Cond.selects RX1 yX1_isSafe yX1_isSafe, Cond.initialized RX1, Cond.code yX1_isSafe cX1_isSafe 5 (some .boolean), Cond.methodLink RX1 30 yX1_allowed, Cond.instanceMethod yX1_allowed, Cond.selects RX1 yX1_allowed yX1_allowed, Cond.code yX1_allowed cX1_allowed 3 (some .int)]
def wsX2_farthestReach_r2 : List Cond := [Cond.fieldLink RX1 15 "CraneReach$Rig" "limits" "[I", Cond.methodLink RX1 36 yX1_strain, Cond.instanceMethod yX1_strain, Cond.selects RX1 yX1_strain yX1_strain, Cond.code yX1_strain cX1_strain 7 (some .int), Cond.fieldLink RX1 18 "CraneReach$Rig" "plates" "I", Cond.methodLink RX1 22 yX1_drawn, Cond.instanceMethod yX1_drawn, Cond.selects RX1 yX1_drawn yX1_drawn, Cond.code yX1_drawn cX1_drawn 2 (some .int), Cond.fieldLink RX1 9 "CraneReach$Rig" "outs" "[I", Cond.methodLink RX1 40 yX1_slant, Cond.static yX1_slant, Cond.code yX1_slant cX1_slant 2 (some .int)]
def wsX2_farthestReach : List Cond := .code yX2_farthestReach cX2_farthestReach 5 (some .int) :: ((wsX2_farthestReach_r1 ++ wsX2_farthestReach_r2) ++ wsX20 ++ wsX10 ++ (vx_atS RX2 163 "java/lang/IndexOutOfBoundsException" ["java/lang/RuntimeException", "java/lang/Exception"]).filter goodWord ++ (vx_atS RX2 38 "java/lang/IllegalArgumentException" ["java/lang/RuntimeException", "java/lang/Exception"]).filter goodWord)
def wsX2_safeDirections_r1 : List Cond := [Cond.fieldLink RX2 12 "CraneReach" "rig" "LCraneReach$Rig;", Cond.methodLink RX2 127 yX2_requireLoad, Cond.static yX2_requireLoad, Cond.initialized RX2, Cond.code yX2_requireLoad cX2_requireLoad 1 none, Cond.classLink RX2 34 "java/lang/IllegalArgumentException", Cond.initialized "java/lang/IllegalArgumentException", Cond.methodLink RX2 30 yX2_isWithin, Cond.static yX2_isWithin, Cond.code yX2_isWithin cX2_isWithin 3 (some .boolean), Cond.methodLink RX2 72 yX2_requireReach, Cond.static yX2_requireReach, Cond.code yX2_requireReach cX2_requireReach 1 none, Cond.methodLink RX2 113 yX2_isReach, Cond.static yX2_isReach, Cond.code yX2_isReach cX2_isReach 1 (some .boolean), Cond.methodLink RX2 105 yX1_isSafe, Cond.instanceMethod yX1_isSafe, Cond.selects RX1 yX1_isSafe yX1_isSafe, Cond.initialized RX1, Cond.code yX1_isSafe cX1_isSafe 5 (some .boolean), Cond.methodLink RX1 30 yX1_allowed, Cond.instanceMethod yX1_allowed, Cond.selects RX1 yX1_allowed yX1_allowed]
def wsX2_safeDirections_r2 : List Cond := [Cond.code yX1_allowed cX1_allowed 3 (some .int), Cond.fieldLink RX1 15 "CraneReach$Rig" "limits" "[I", Cond.methodLink RX1 36 yX1_strain, Cond.instanceMethod yX1_strain, Cond.selects RX1 yX1_strain yX1_strain, Cond.code yX1_strain cX1_strain 7 (some .int), Cond.fieldLink RX1 18 "CraneReach$Rig" "plates" "I", Cond.methodLink RX1 22 yX1_drawn, Cond.instanceMethod yX1_drawn, Cond.selects RX1 yX1_drawn yX1_drawn, Cond.code yX1_drawn cX1_drawn 2 (some .int), Cond.fieldLink RX1 9 "CraneReach$Rig" "outs" "[I", Cond.methodLink RX1 40 yX1_slant, Cond.static yX1_slant, Cond.code yX1_slant cX1_slant 2 (some .int)]
def wsX2_safeDirections : List Cond := .code yX2_safeDirections cX2_safeDirections 5 (some .int) :: ((wsX2_safeDirections_r1 ++ wsX2_safeDirections_r2) ++ wsX20 ++ wsX10 ++ (vx_atS RX2 38 "java/lang/IllegalArgumentException" ["java/lang/RuntimeException", "java/lang/Exception"]).filter goodWord)
def wsX2_platesNeeded_r1 : List Cond := [Cond.fieldLink RX2 16 "CraneReach" "trial" "LCraneReach$Rig;", Cond.fieldLink RX2 12 "CraneReach" "rig" "LCraneReach$Rig;", Cond.fieldLink RX2 45 "CraneReach$Rig" "plates" "I", Cond.methodLink RX2 124 yX2_requireDirection, Cond.static yX2_requireDirection, Cond.initialized RX2, Cond.code yX2_requireDirection cX2_requireDirection 1 none, Cond.classLink RX2 159 "java/lang/IndexOutOfBoundsException", Cond.initialized "java/lang/IndexOutOfBoundsException", Cond.methodLink RX2 30 yX2_isWithin, Cond.static yX2_isWithin, Cond.code yX2_isWithin cX2_isWithin 3 (some .boolean), Cond.methodLink RX2 127 yX2_requireLoad, Cond.static yX2_requireLoad, Cond.code yX2_requireLoad cX2_requireLoad 1 none, Cond.classLink RX2 34 "java/lang/IllegalArgumentException", Cond.initialized "java/lang/IllegalArgumentException", Cond.methodLink RX2 72 yX2_requireReach, Cond.static yX2_requireReach, Cond.code yX2_requireReach cX2_requireReach 1 none, Cond.methodLink RX2 113 yX2_isReach, Cond.static yX2_isReach, Cond.code yX2_isReach cX2_isReach 1 (some .boolean), Cond.methodLink RX2 41 yX1_becomeLike]
def wsX2_platesNeeded_r2 : List Cond := [Cond.instanceMethod yX1_becomeLike, Cond.selects RX1 yX1_becomeLike yX1_becomeLike, Cond.initialized RX1, Cond.code yX1_becomeLike cX1_becomeLike 3 none, Cond.fieldLink RX1 18 "CraneReach$Rig" "plates" "I", Cond.methodLink RX1 22 yX1_drawn, Cond.instanceMethod yX1_drawn, Cond.selects RX1 yX1_drawn yX1_drawn, Cond.code yX1_drawn cX1_drawn 2 (some .int), Cond.fieldLink RX1 9 "CraneReach$Rig" "outs" "[I", Cond.methodLink RX1 26 yX1_draw, Cond.instanceMethod yX1_draw, Cond.selects RX1 yX1_draw yX1_draw, Cond.code yX1_draw cX1_draw 3 none, Cond.methodLink RX1 30 yX1_allowed, Cond.instanceMethod yX1_allowed, Cond.selects RX1 yX1_allowed yX1_allowed, Cond.code yX1_allowed cX1_allowed 3 (some .int), Cond.fieldLink RX1 15 "CraneReach$Rig" "limits" "[I", Cond.methodLink RX1 33 yX1_allow, Cond.instanceMethod yX1_allow, Cond.selects RX1 yX1_allow yX1_allow, Cond.code yX1_allow cX1_allow 4 none, Cond.methodLink RX2 105 yX1_isSafe]
def wsX2_platesNeeded_r3 : List Cond := [Cond.instanceMethod yX1_isSafe, Cond.selects RX1 yX1_isSafe yX1_isSafe, Cond.code yX1_isSafe cX1_isSafe 5 (some .boolean), Cond.methodLink RX1 36 yX1_strain, Cond.instanceMethod yX1_strain, Cond.selects RX1 yX1_strain yX1_strain, Cond.code yX1_strain cX1_strain 7 (some .int), Cond.methodLink RX1 40 yX1_slant, Cond.static yX1_slant, Cond.code yX1_slant cX1_slant 2 (some .int)]
def wsX2_platesNeeded : List Cond := .code yX2_platesNeeded cX2_platesNeeded 5 (some .int) :: ((wsX2_platesNeeded_r1 ++ (wsX2_platesNeeded_r2 ++ wsX2_platesNeeded_r3)) ++ wsX20 ++ wsX10 ++ (vx_atS RX2 163 "java/lang/IndexOutOfBoundsException" ["java/lang/RuntimeException", "java/lang/Exception"]).filter goodWord ++ (vx_atS RX2 38 "java/lang/IllegalArgumentException" ["java/lang/RuntimeException", "java/lang/Exception"]).filter goodWord)
def wsX2_fewestMoves_r1 : List Cond := [Cond.fieldLink RX2 22 "CraneReach" "plan" "LCraneReach$Plan;", Cond.fieldLink RX2 12 "CraneReach" "rig" "LCraneReach$Rig;", Cond.fieldLink RX2 98 "CraneReach" "direction" "I", Cond.fieldLink RX2 26 "CraneReach" "reach" "I", Cond.methodLink RX2 124 yX2_requireDirection, Cond.static yX2_requireDirection, Cond.initialized RX2, Cond.code yX2_requireDirection cX2_requireDirection 1 none, Cond.classLink RX2 159 "java/lang/IndexOutOfBoundsException", Cond.initialized "java/lang/IndexOutOfBoundsException", Cond.methodLink RX2 30 yX2_isWithin, Cond.static yX2_isWithin, Cond.code yX2_isWithin cX2_isWithin 3 (some .boolean), Cond.methodLink RX2 127 yX2_requireLoad, Cond.static yX2_requireLoad, Cond.code yX2_requireLoad cX2_requireLoad 1 none, Cond.classLink RX2 34 "java/lang/IllegalArgumentException", Cond.initialized "java/lang/IllegalArgumentException", Cond.methodLink RX2 72 yX2_requireReach, Cond.static yX2_requireReach, Cond.code yX2_requireReach cX2_requireReach 1 none, Cond.methodLink RX2 113 yX2_isReach, Cond.static yX2_isReach, Cond.code yX2_isReach cX2_isReach 1 (some .boolean)]
def wsX2_fewestMoves_r2 : List Cond := [Cond.methodLink RX2 130 yX0_spread, Cond.instanceMethod yX0_spread, Cond.selects RX0 yX0_spread yX0_spread, Cond.initialized RX0, Cond.code yX0_spread cX0_spread 6 (some .int), Cond.fieldLink RX0 18 "CraneReach$Plan" "places" "I", Cond.fieldLink RX0 9 "CraneReach$Plan" "moves" "[I", Cond.fieldLink RX0 15 "CraneReach$Plan" "found" "[I", Cond.methodLink RX0 22 yX0_visit, Cond.instanceMethod yX0_visit, Cond.selects RX0 yX0_visit yX0_visit, Cond.code yX0_visit cX0_visit 7 none, Cond.methodLink RX0 30 yX0_placeOf, Cond.static yX0_placeOf, Cond.code yX0_placeOf cX0_placeOf 2 (some .int), Cond.methodLink RX0 37 yX1_isSafe, Cond.instanceMethod yX1_isSafe, Cond.selects RX1 yX1_isSafe yX1_isSafe, Cond.initialized RX1, Cond.code yX1_isSafe cX1_isSafe 5 (some .boolean), Cond.methodLink RX1 30 yX1_allowed, Cond.instanceMethod yX1_allowed, Cond.selects RX1 yX1_allowed yX1_allowed, Cond.code yX1_allowed cX1_allowed 3 (some .int)]
def wsX2_fewestMoves_r3 : List Cond := [Cond.fieldLink RX1 15 "CraneReach$Rig" "limits" "[I", Cond.methodLink RX1 36 yX1_strain, Cond.instanceMethod yX1_strain, Cond.selects RX1 yX1_strain yX1_strain, Cond.code yX1_strain cX1_strain 7 (some .int), Cond.fieldLink RX1 18 "CraneReach$Rig" "plates" "I", Cond.methodLink RX1 22 yX1_drawn, Cond.instanceMethod yX1_drawn, Cond.selects RX1 yX1_drawn yX1_drawn, Cond.code yX1_drawn cX1_drawn 2 (some .int), Cond.fieldLink RX1 9 "CraneReach$Rig" "outs" "[I", Cond.methodLink RX1 40 yX1_slant, Cond.static yX1_slant, Cond.code yX1_slant cX1_slant 2 (some .int), Cond.methodLink RX0 26 yX0_visitBeside, Cond.instanceMethod yX0_visitBeside, Cond.selects RX0 yX0_visitBeside yX0_visitBeside, Cond.code yX0_visitBeside cX0_visitBeside 7 none, Cond.static yX2_turned, Cond.code yX2_turned cX2_turned 2 (some .int), Cond.methodLink RX2 134 yX0_movesTo, Cond.instanceMethod yX0_movesTo, Cond.selects RX0 yX0_movesTo yX0_movesTo, Cond.code yX0_movesTo cX0_movesTo 4 (some .int)]
def wsX2_fewestMoves : List Cond := .code yX2_fewestMoves cX2_fewestMoves 4 (some .int) :: ((wsX2_fewestMoves_r1 ++ (wsX2_fewestMoves_r2 ++ wsX2_fewestMoves_r3)) ++ wsX20 ++ wsX00 ++ wsX10 ++ (vx_atS RX2 163 "java/lang/IndexOutOfBoundsException" ["java/lang/RuntimeException", "java/lang/Exception"]).filter goodWord ++ (vx_atS RX2 38 "java/lang/IllegalArgumentException" ["java/lang/RuntimeException", "java/lang/Exception"]).filter goodWord)
def wsX2_placesWithin_r1 : List Cond := [Cond.fieldLink RX2 22 "CraneReach" "plan" "LCraneReach$Plan;", Cond.fieldLink RX2 12 "CraneReach" "rig" "LCraneReach$Rig;", Cond.fieldLink RX2 98 "CraneReach" "direction" "I", Cond.fieldLink RX2 26 "CraneReach" "reach" "I", Cond.methodLink RX2 127 yX2_requireLoad, Cond.static yX2_requireLoad, Cond.initialized RX2, Cond.code yX2_requireLoad cX2_requireLoad 1 none, Cond.classLink RX2 34 "java/lang/IllegalArgumentException", Cond.initialized "java/lang/IllegalArgumentException", Cond.methodLink RX2 30 yX2_isWithin, Cond.static yX2_isWithin, Cond.code yX2_isWithin cX2_isWithin 3 (some .boolean), Cond.methodLink RX2 130 yX0_spread, Cond.instanceMethod yX0_spread, Cond.selects RX0 yX0_spread yX0_spread, Cond.initialized RX0, Cond.code yX0_spread cX0_spread 6 (some .int), Cond.fieldLink RX0 18 "CraneReach$Plan" "places" "I", Cond.fieldLink RX0 9 "CraneReach$Plan" "moves" "[I", Cond.fieldLink RX0 15 "CraneReach$Plan" "found" "[I", Cond.methodLink RX0 22 yX0_visit, Cond.instanceMethod yX0_visit, Cond.selects RX0 yX0_visit yX0_visit]
def wsX2_placesWithin_r2 : List Cond := [Cond.code yX0_visit cX0_visit 7 none, Cond.methodLink RX0 30 yX0_placeOf, Cond.static yX0_placeOf, Cond.code yX0_placeOf cX0_placeOf 2 (some .int), Cond.static yX2_isReach, Cond.code yX2_isReach cX2_isReach 1 (some .boolean), Cond.methodLink RX0 37 yX1_isSafe, Cond.instanceMethod yX1_isSafe, Cond.selects RX1 yX1_isSafe yX1_isSafe, Cond.initialized RX1, Cond.code yX1_isSafe cX1_isSafe 5 (some .boolean), Cond.methodLink RX1 30 yX1_allowed, Cond.instanceMethod yX1_allowed, Cond.selects RX1 yX1_allowed yX1_allowed, Cond.code yX1_allowed cX1_allowed 3 (some .int), Cond.fieldLink RX1 15 "CraneReach$Rig" "limits" "[I", Cond.methodLink RX1 36 yX1_strain, Cond.instanceMethod yX1_strain, Cond.selects RX1 yX1_strain yX1_strain, Cond.code yX1_strain cX1_strain 7 (some .int), Cond.fieldLink RX1 18 "CraneReach$Rig" "plates" "I", Cond.methodLink RX1 22 yX1_drawn, Cond.instanceMethod yX1_drawn, Cond.selects RX1 yX1_drawn yX1_drawn]
def wsX2_placesWithin_r3 : List Cond := [Cond.code yX1_drawn cX1_drawn 2 (some .int), Cond.fieldLink RX1 9 "CraneReach$Rig" "outs" "[I", Cond.methodLink RX1 40 yX1_slant, Cond.static yX1_slant, Cond.code yX1_slant cX1_slant 2 (some .int), Cond.methodLink RX0 26 yX0_visitBeside, Cond.instanceMethod yX0_visitBeside, Cond.selects RX0 yX0_visitBeside yX0_visitBeside, Cond.code yX0_visitBeside cX0_visitBeside 7 none, Cond.static yX2_turned, Cond.code yX2_turned cX2_turned 2 (some .int)]
def wsX2_placesWithin : List Cond := .code yX2_placesWithin cX2_placesWithin 2 (some .int) :: ((wsX2_placesWithin_r1 ++ (wsX2_placesWithin_r2 ++ wsX2_placesWithin_r3)) ++ wsX20 ++ wsX00 ++ wsX10 ++ (vx_atS RX2 38 "java/lang/IllegalArgumentException" ["java/lang/RuntimeException", "java/lang/Exception"]).filter goodWord)
def wsX2_bestOutrigger_r1 : List Cond := [Cond.fieldLink RX2 12 "CraneReach" "rig" "LCraneReach$Rig;", Cond.fieldLink RX2 16 "CraneReach" "trial" "LCraneReach$Rig;", Cond.fieldLink RX2 22 "CraneReach" "plan" "LCraneReach$Plan;", Cond.fieldLink RX2 98 "CraneReach" "direction" "I", Cond.fieldLink RX2 26 "CraneReach" "reach" "I", Cond.methodLink RX2 127 yX2_requireLoad, Cond.static yX2_requireLoad, Cond.initialized RX2, Cond.code yX2_requireLoad cX2_requireLoad 1 none, Cond.classLink RX2 34 "java/lang/IllegalArgumentException", Cond.initialized "java/lang/IllegalArgumentException", Cond.methodLink RX2 30 yX2_isWithin, Cond.static yX2_isWithin, Cond.code yX2_isWithin cX2_isWithin 3 (some .boolean), Cond.methodLink RX2 68 yX1_drawn, Cond.instanceMethod yX1_drawn, Cond.selects RX1 yX1_drawn yX1_drawn, Cond.initialized RX1, Cond.code yX1_drawn cX1_drawn 2 (some .int), Cond.fieldLink RX1 9 "CraneReach$Rig" "outs" "[I", Cond.methodLink RX2 41 yX1_becomeLike, Cond.instanceMethod yX1_becomeLike, Cond.selects RX1 yX1_becomeLike yX1_becomeLike, Cond.code yX1_becomeLike cX1_becomeLike 3 none]
def wsX2_bestOutrigger_r2 : List Cond := [Cond.fieldLink RX1 18 "CraneReach$Rig" "plates" "I", Cond.methodLink RX1 22 yX1_drawn, Cond.methodLink RX1 26 yX1_draw, Cond.instanceMethod yX1_draw, Cond.selects RX1 yX1_draw yX1_draw, Cond.code yX1_draw cX1_draw 3 none, Cond.methodLink RX1 30 yX1_allowed, Cond.instanceMethod yX1_allowed, Cond.selects RX1 yX1_allowed yX1_allowed, Cond.code yX1_allowed cX1_allowed 3 (some .int), Cond.fieldLink RX1 15 "CraneReach$Rig" "limits" "[I", Cond.methodLink RX1 33 yX1_allow, Cond.instanceMethod yX1_allow, Cond.selects RX1 yX1_allow yX1_allow, Cond.code yX1_allow cX1_allow 4 none, Cond.methodLink RX2 64 yX1_draw, Cond.methodLink RX2 130 yX0_spread, Cond.instanceMethod yX0_spread, Cond.selects RX0 yX0_spread yX0_spread, Cond.initialized RX0, Cond.code yX0_spread cX0_spread 6 (some .int), Cond.fieldLink RX0 18 "CraneReach$Plan" "places" "I", Cond.fieldLink RX0 9 "CraneReach$Plan" "moves" "[I", Cond.fieldLink RX0 15 "CraneReach$Plan" "found" "[I"]
def wsX2_bestOutrigger_r3 : List Cond := [Cond.methodLink RX0 22 yX0_visit, Cond.instanceMethod yX0_visit, Cond.selects RX0 yX0_visit yX0_visit, Cond.code yX0_visit cX0_visit 7 none, Cond.methodLink RX0 30 yX0_placeOf, Cond.static yX0_placeOf, Cond.code yX0_placeOf cX0_placeOf 2 (some .int), Cond.static yX2_isReach, Cond.code yX2_isReach cX2_isReach 1 (some .boolean), Cond.methodLink RX0 37 yX1_isSafe, Cond.instanceMethod yX1_isSafe, Cond.selects RX1 yX1_isSafe yX1_isSafe, Cond.code yX1_isSafe cX1_isSafe 5 (some .boolean), Cond.methodLink RX1 36 yX1_strain, Cond.instanceMethod yX1_strain, Cond.selects RX1 yX1_strain yX1_strain, Cond.code yX1_strain cX1_strain 7 (some .int), Cond.methodLink RX1 40 yX1_slant, Cond.static yX1_slant, Cond.code yX1_slant cX1_slant 2 (some .int), Cond.methodLink RX0 26 yX0_visitBeside, Cond.instanceMethod yX0_visitBeside, Cond.selects RX0 yX0_visitBeside yX0_visitBeside, Cond.code yX0_visitBeside cX0_visitBeside 7 none]
def wsX2_bestOutrigger_r4 : List Cond := [Cond.static yX2_turned, Cond.code yX2_turned cX2_turned 2 (some .int)]
def wsX2_bestOutrigger : List Cond := .code yX2_bestOutrigger cX2_bestOutrigger 7 (some .int) :: ((wsX2_bestOutrigger_r1 ++ (wsX2_bestOutrigger_r2 ++ (wsX2_bestOutrigger_r3 ++ wsX2_bestOutrigger_r4))) ++ wsX20 ++ wsX10 ++ wsX00 ++ (vx_atS RX2 38 "java/lang/IllegalArgumentException" ["java/lang/RuntimeException", "java/lang/Exception"]).filter goodWord)
def wsX2_meanLoad : List Cond := .code yX2_meanLoad cX2_meanLoad 1 (some .double) :: ([.fieldLink RX2 85 "CraneReach" "lifts" "I", .fieldLink RX2 88 "CraneReach" "tonsLifted" "I"] ++ wsX20)
def wsX2_mixed : List Cond := .code yX2_mixed cX2_mixed 3 (some .long) :: ([.constantLong RX2 153 (31)])
def wsX2_digest_r1 : List Cond := [Cond.constantLong RX2 137 (1907), Cond.fieldLink RX2 98 "CraneReach" "direction" "I", Cond.fieldLink RX2 26 "CraneReach" "reach" "I", Cond.fieldLink RX2 48 "CraneReach" "load" "I", Cond.fieldLink RX2 12 "CraneReach" "rig" "LCraneReach$Rig;", Cond.fieldLink RX2 45 "CraneReach$Rig" "plates" "I", Cond.fieldLink RX2 85 "CraneReach" "lifts" "I", Cond.fieldLink RX2 88 "CraneReach" "tonsLifted" "I", Cond.fieldLink RX2 121 "CraneReach" "movesWithLoad" "I", Cond.methodLink RX2 139 yX2_mixed, Cond.static yX2_mixed, Cond.initialized RX2, Cond.code yX2_mixed cX2_mixed 3 (some .long), Cond.constantLong RX2 153 (31), Cond.methodLink RX2 143 yX2_weakestSide, Cond.instanceMethod yX2_weakestSide, Cond.selects RX2 yX2_weakestSide yX2_weakestSide, Cond.code yX2_weakestSide cX2_weakestSide 5 (some .int), Cond.methodLink RX2 117 yX1_strain, Cond.instanceMethod yX1_strain, Cond.selects RX1 yX1_strain yX1_strain, Cond.initialized RX1, Cond.code yX1_strain cX1_strain 7 (some .int), Cond.fieldLink RX1 18 "CraneReach$Rig" "plates" "I"]
def wsX2_digest_r2 : List Cond := [Cond.methodLink RX1 22 yX1_drawn, Cond.instanceMethod yX1_drawn, Cond.selects RX1 yX1_drawn yX1_drawn, Cond.code yX1_drawn cX1_drawn 2 (some .int), Cond.fieldLink RX1 9 "CraneReach$Rig" "outs" "[I", Cond.methodLink RX1 40 yX1_slant, Cond.static yX1_slant, Cond.code yX1_slant cX1_slant 2 (some .int), Cond.methodLink RX2 147 yX2_greatestLoad, Cond.instanceMethod yX2_greatestLoad, Cond.selects RX2 yX2_greatestLoad yX2_greatestLoad, Cond.code yX2_greatestLoad cX2_greatestLoad 2 (some .int), Cond.methodLink RX2 105 yX1_isSafe, Cond.instanceMethod yX1_isSafe, Cond.selects RX1 yX1_isSafe yX1_isSafe, Cond.code yX1_isSafe cX1_isSafe 5 (some .boolean), Cond.methodLink RX1 30 yX1_allowed, Cond.instanceMethod yX1_allowed, Cond.selects RX1 yX1_allowed yX1_allowed, Cond.code yX1_allowed cX1_allowed 3 (some .int), Cond.fieldLink RX1 15 "CraneReach$Rig" "limits" "[I", Cond.methodLink RX1 36 yX1_strain, Cond.methodLink RX2 68 yX1_drawn, Cond.methodLink RX2 80 yX1_allowed]
def wsX2_digest_r3 : List Cond := [Cond.methodLink RX2 150 yX2_safeDirections, Cond.instanceMethod yX2_safeDirections, Cond.selects RX2 yX2_safeDirections yX2_safeDirections, Cond.code yX2_safeDirections cX2_safeDirections 5 (some .int), Cond.methodLink RX2 127 yX2_requireLoad, Cond.static yX2_requireLoad, Cond.code yX2_requireLoad cX2_requireLoad 1 none, Cond.classLink RX2 34 "java/lang/IllegalArgumentException", Cond.initialized "java/lang/IllegalArgumentException", Cond.methodLink RX2 30 yX2_isWithin, Cond.static yX2_isWithin, Cond.code yX2_isWithin cX2_isWithin 3 (some .boolean), Cond.methodLink RX2 72 yX2_requireReach, Cond.static yX2_requireReach, Cond.code yX2_requireReach cX2_requireReach 1 none, Cond.methodLink RX2 113 yX2_isReach, Cond.static yX2_isReach, Cond.code yX2_isReach cX2_isReach 1 (some .boolean)]
def wsX2_digest : List Cond := .code yX2_digest cX2_digest 4 (some .long) :: ((wsX2_digest_r1 ++ (wsX2_digest_r2 ++ wsX2_digest_r3)) ++ wsX20 ++ wsX10 ++ (vx_atS RX2 38 "java/lang/IllegalArgumentException" ["java/lang/RuntimeException", "java/lang/Exception"]).filter goodWord)
def wsX3_init : List Cond := .code yX3_init cX3_init 2 none :: ([.methodLink RX3 3 objectInit, .instanceMethod objectInit, .code objectInit ⟨#[0xb1]⟩ 1 none, .fieldLink RX3 9 "CraneReachModel" "reach" "I", .arrayClass .int, .fieldLink RX3 13 "CraneReachModel" "out" "[I", .fieldLink RX3 17 "CraneReachModel" "limit" "[I", .fieldLink RX3 20 "CraneReachModel" "away" "[I", .fieldLink RX3 23 "CraneReachModel" "queue" "[I"] ++ wsX30)
def wsX3_thrown : List Cond := .code yX3_thrown cX3_thrown 1 (some .int) :: ([.fieldLink RX3 26 "CraneReachModel" "thrown" "I"] ++ wsX30)
def wsX3_no : List Cond := .code yX3_no cX3_no 2 (some .int) :: ([.fieldLink RX3 26 "CraneReachModel" "thrown" "I"] ++ wsX30)
def wsX3_isNot : List Cond := .code yX3_isNot cX3_isNot 2 (some .boolean) :: ([.fieldLink RX3 26 "CraneReachModel" "thrown" "I"] ++ wsX30)
def wsX3_isIn : List Cond := .code yX3_isIn cX3_isIn 3 (some .boolean) :: ([])
def wsX3_isSide : List Cond := .code yX3_isSide cX3_isSide 1 (some .boolean) :: ([.methodLink RX3 29 yX3_isIn, .static yX3_isIn, .initialized RX3, .code yX3_isIn cX3_isIn 3 (some .boolean)])
def wsX3_isDirection : List Cond := .code yX3_isDirection cX3_isDirection 1 (some .boolean) :: ([.methodLink RX3 29 yX3_isIn, .static yX3_isIn, .initialized RX3, .code yX3_isIn cX3_isIn 3 (some .boolean)])
def wsX3_isReach : List Cond := .code yX3_isReach cX3_isReach 1 (some .boolean) :: ([.methodLink RX3 29 yX3_isIn, .static yX3_isIn, .initialized RX3, .code yX3_isIn cX3_isIn 3 (some .boolean)])
def wsX3_isLoad : List Cond := .code yX3_isLoad cX3_isLoad 1 (some .boolean) :: ([.methodLink RX3 29 yX3_isIn, .static yX3_isIn, .initialized RX3, .code yX3_isIn cX3_isIn 3 (some .boolean)])
def wsX3_strain : List Cond := .code yX3_strain cX3_strain 8 (some .int) :: ([.methodLink RX3 33 Lib.Math.abs.name, .static Lib.Math.abs.name, .initialized "java/lang/Math", .code Lib.Math.abs.name Lib.Math.abs.code 1 (some .int), .fieldLink RX3 39 "CraneReachModel" "SLANT" "[I", .methodLink RX3 42 Lib.Math.min.name, .static Lib.Math.min.name, .code Lib.Math.min.name Lib.Math.min.code 2 (some .int), .fieldLink RX3 13 "CraneReachModel" "out" "[I", .fieldLink RX3 46 "CraneReachModel" "plates" "I"] ++ wsX30)
def wsX3_isSafe : List Cond := .code yX3_isSafe cX3_isSafe 5 (some .boolean) :: ([.fieldLink RX3 17 "CraneReachModel" "limit" "[I", .methodLink RX3 49 yX3_strain, .instanceMethod yX3_strain, .selects RX3 yX3_strain yX3_strain, .initialized RX3, .code yX3_strain cX3_strain 8 (some .int), .methodLink RX3 33 Lib.Math.abs.name, .static Lib.Math.abs.name, .initialized "java/lang/Math", .code Lib.Math.abs.name Lib.Math.abs.code 1 (some .int), .fieldLink RX3 39 "CraneReachModel" "SLANT" "[I", .methodLink RX3 42 Lib.Math.min.name, .static Lib.Math.min.name, .code Lib.Math.min.name Lib.Math.min.code 2 (some .int), .fieldLink RX3 13 "CraneReachModel" "out" "[I", .fieldLink RX3 46 "CraneReachModel" "plates" "I"] ++ wsX30)
def wsX3_isSafe_ : List Cond := .code yX3_isSafe_ cX3_isSafe_ 1 (some .boolean) :: ([.fieldLink RX3 53 "CraneReachModel" "load" "I", .fieldLink RX3 56 "CraneReachModel" "direction" "I", .fieldLink RX3 9 "CraneReachModel" "reach" "I", .methodLink RX3 59 yX3_isSafe, .instanceMethod yX3_isSafe, .selects RX3 yX3_isSafe yX3_isSafe, .initialized RX3, .code yX3_isSafe cX3_isSafe 5 (some .boolean), .fieldLink RX3 17 "CraneReachModel" "limit" "[I", .methodLink RX3 49 yX3_strain, .instanceMethod yX3_strain, .selects RX3 yX3_strain yX3_strain, .code yX3_strain cX3_strain 8 (some .int), .methodLink RX3 33 Lib.Math.abs.name, .static Lib.Math.abs.name, .initialized "java/lang/Math", .code Lib.Math.abs.name Lib.Math.abs.code 1 (some .int), .fieldLink RX3 39 "CraneReachModel" "SLANT" "[I", .methodLink RX3 42 Lib.Math.min.name, .static Lib.Math.min.name, .code Lib.Math.min.name Lib.Math.min.code 2 (some .int), .fieldLink RX3 13 "CraneReachModel" "out" "[I", .fieldLink RX3 46 "CraneReachModel" "plates" "I"] ++ wsX30)
def wsX3_setPlates_r1 : List Cond := [Cond.fieldLink RX3 26 "CraneReachModel" "thrown" "I", Cond.fieldLink RX3 46 "CraneReachModel" "plates" "I", Cond.methodLink RX3 29 yX3_isIn, Cond.static yX3_isIn, Cond.initialized RX3, Cond.code yX3_isIn cX3_isIn 3 (some .boolean), Cond.methodLink RX3 62 yX3_no, Cond.instanceMethod yX3_no, Cond.selects RX3 yX3_no yX3_no, Cond.code yX3_no cX3_no 2 (some .int), Cond.methodLink RX3 65 yX3_isSafe_, Cond.instanceMethod yX3_isSafe_, Cond.selects RX3 yX3_isSafe_ yX3_isSafe_, Cond.code yX3_isSafe_ cX3_isSafe_ 1 (some .boolean), Cond.fieldLink RX3 53 "CraneReachModel" "load" "I", Cond.fieldLink RX3 56 "CraneReachModel" "direction" "I", Cond.fieldLink RX3 9 "CraneReachModel" "reach" "I", Cond.methodLink RX3 59 yX3_isSafe, Cond.instanceMethod yX3_isSafe, Cond.selects RX3 yX3_isSafe yX3_isSafe, Cond.code yX3_isSafe cX3_isSafe 5 (some .boolean), Cond.fieldLink RX3 17 "CraneReachModel" "limit" "[I", Cond.methodLink RX3 49 yX3_strain, Cond.instanceMethod yX3_strain]
def wsX3_setPlates_r2 : List Cond := [Cond.selects RX3 yX3_strain yX3_strain, Cond.code yX3_strain cX3_strain 8 (some .int), Cond.methodLink RX3 33 Lib.Math.abs.name, Cond.static Lib.Math.abs.name, Cond.initialized "java/lang/Math", Cond.code Lib.Math.abs.name Lib.Math.abs.code 1 (some .int), Cond.fieldLink RX3 39 "CraneReachModel" "SLANT" "[I", Cond.methodLink RX3 42 Lib.Math.min.name, Cond.static Lib.Math.min.name, Cond.code Lib.Math.min.name Lib.Math.min.code 2 (some .int), Cond.fieldLink RX3 13 "CraneReachModel" "out" "[I"]
def wsX3_setPlates : List Cond := .code yX3_setPlates cX3_setPlates 3 (some .int) :: ((wsX3_setPlates_r1 ++ wsX3_setPlates_r2) ++ wsX30)
def wsX3_setOutrigger_r1 : List Cond := [Cond.fieldLink RX3 26 "CraneReachModel" "thrown" "I", Cond.fieldLink RX3 13 "CraneReachModel" "out" "[I", Cond.fieldLink RX3 53 "CraneReachModel" "load" "I", Cond.methodLink RX3 68 yX3_isSide, Cond.static yX3_isSide, Cond.initialized RX3, Cond.code yX3_isSide cX3_isSide 1 (some .boolean), Cond.methodLink RX3 29 yX3_isIn, Cond.static yX3_isIn, Cond.code yX3_isIn cX3_isIn 3 (some .boolean), Cond.methodLink RX3 62 yX3_no, Cond.instanceMethod yX3_no, Cond.selects RX3 yX3_no yX3_no, Cond.code yX3_no cX3_no 2 (some .int), Cond.methodLink RX3 65 yX3_isSafe_, Cond.instanceMethod yX3_isSafe_, Cond.selects RX3 yX3_isSafe_ yX3_isSafe_, Cond.code yX3_isSafe_ cX3_isSafe_ 1 (some .boolean), Cond.fieldLink RX3 56 "CraneReachModel" "direction" "I", Cond.fieldLink RX3 9 "CraneReachModel" "reach" "I", Cond.methodLink RX3 59 yX3_isSafe, Cond.instanceMethod yX3_isSafe, Cond.selects RX3 yX3_isSafe yX3_isSafe, Cond.code yX3_isSafe cX3_isSafe 5 (some .boolean)]
def wsX3_setOutrigger_r2 : List Cond := [Cond.fieldLink RX3 17 "CraneReachModel" "limit" "[I", Cond.methodLink RX3 49 yX3_strain, Cond.instanceMethod yX3_strain, Cond.selects RX3 yX3_strain yX3_strain, Cond.code yX3_strain cX3_strain 8 (some .int), Cond.methodLink RX3 33 Lib.Math.abs.name, Cond.static Lib.Math.abs.name, Cond.initialized "java/lang/Math", Cond.code Lib.Math.abs.name Lib.Math.abs.code 1 (some .int), Cond.fieldLink RX3 39 "CraneReachModel" "SLANT" "[I", Cond.methodLink RX3 42 Lib.Math.min.name, Cond.static Lib.Math.min.name, Cond.code Lib.Math.min.name Lib.Math.min.code 2 (some .int), Cond.fieldLink RX3 46 "CraneReachModel" "plates" "I"]
def wsX3_setOutrigger : List Cond := .code yX3_setOutrigger cX3_setOutrigger 4 (some .int) :: ((wsX3_setOutrigger_r1 ++ wsX3_setOutrigger_r2) ++ wsX30)
def wsX3_setLimit : List Cond := .code yX3_setLimit cX3_setLimit 4 (some .int) :: ([.fieldLink RX3 26 "CraneReachModel" "thrown" "I", .fieldLink RX3 9 "CraneReachModel" "reach" "I", .fieldLink RX3 53 "CraneReachModel" "load" "I", .fieldLink RX3 17 "CraneReachModel" "limit" "[I", .methodLink RX3 72 yX3_isReach, .static yX3_isReach, .initialized RX3, .code yX3_isReach cX3_isReach 1 (some .boolean), .methodLink RX3 29 yX3_isIn, .static yX3_isIn, .code yX3_isIn cX3_isIn 3 (some .boolean), .methodLink RX3 75 yX3_isLoad, .static yX3_isLoad, .code yX3_isLoad cX3_isLoad 1 (some .boolean), .methodLink RX3 62 yX3_no, .instanceMethod yX3_no, .selects RX3 yX3_no yX3_no, .code yX3_no cX3_no 2 (some .int)] ++ wsX30)
def wsX3_lift_r1 : List Cond := [Cond.fieldLink RX3 26 "CraneReachModel" "thrown" "I", Cond.fieldLink RX3 53 "CraneReachModel" "load" "I", Cond.fieldLink RX3 56 "CraneReachModel" "direction" "I", Cond.fieldLink RX3 9 "CraneReachModel" "reach" "I", Cond.fieldLink RX3 78 "CraneReachModel" "lifts" "I", Cond.fieldLink RX3 81 "CraneReachModel" "tons" "I", Cond.methodLink RX3 29 yX3_isIn, Cond.static yX3_isIn, Cond.initialized RX3, Cond.code yX3_isIn cX3_isIn 3 (some .boolean), Cond.methodLink RX3 62 yX3_no, Cond.instanceMethod yX3_no, Cond.selects RX3 yX3_no yX3_no, Cond.code yX3_no cX3_no 2 (some .int), Cond.methodLink RX3 59 yX3_isSafe, Cond.instanceMethod yX3_isSafe, Cond.selects RX3 yX3_isSafe yX3_isSafe, Cond.code yX3_isSafe cX3_isSafe 5 (some .boolean), Cond.fieldLink RX3 17 "CraneReachModel" "limit" "[I", Cond.methodLink RX3 49 yX3_strain, Cond.instanceMethod yX3_strain, Cond.selects RX3 yX3_strain yX3_strain, Cond.code yX3_strain cX3_strain 8 (some .int), Cond.methodLink RX3 33 Lib.Math.abs.name]
def wsX3_lift_r2 : List Cond := [Cond.static Lib.Math.abs.name, Cond.initialized "java/lang/Math", Cond.code Lib.Math.abs.name Lib.Math.abs.code 1 (some .int), Cond.fieldLink RX3 39 "CraneReachModel" "SLANT" "[I", Cond.methodLink RX3 42 Lib.Math.min.name, Cond.static Lib.Math.min.name, Cond.code Lib.Math.min.name Lib.Math.min.code 2 (some .int), Cond.fieldLink RX3 13 "CraneReachModel" "out" "[I", Cond.fieldLink RX3 46 "CraneReachModel" "plates" "I"]
def wsX3_lift : List Cond := .code yX3_lift cX3_lift 2 (some .int) :: ((wsX3_lift_r1 ++ wsX3_lift_r2) ++ wsX30)
def wsX3_setDown_r1 : List Cond := [Cond.fieldLink RX3 26 "CraneReachModel" "thrown" "I", Cond.fieldLink RX3 53 "CraneReachModel" "load" "I", Cond.fieldLink RX3 56 "CraneReachModel" "direction" "I", Cond.fieldLink RX3 9 "CraneReachModel" "reach" "I", Cond.methodLink RX3 59 yX3_isSafe, Cond.instanceMethod yX3_isSafe, Cond.selects RX3 yX3_isSafe yX3_isSafe, Cond.initialized RX3, Cond.code yX3_isSafe cX3_isSafe 5 (some .boolean), Cond.fieldLink RX3 17 "CraneReachModel" "limit" "[I", Cond.methodLink RX3 49 yX3_strain, Cond.instanceMethod yX3_strain, Cond.selects RX3 yX3_strain yX3_strain, Cond.code yX3_strain cX3_strain 8 (some .int), Cond.methodLink RX3 33 Lib.Math.abs.name, Cond.static Lib.Math.abs.name, Cond.initialized "java/lang/Math", Cond.code Lib.Math.abs.name Lib.Math.abs.code 1 (some .int), Cond.fieldLink RX3 39 "CraneReachModel" "SLANT" "[I", Cond.methodLink RX3 42 Lib.Math.min.name, Cond.static Lib.Math.min.name, Cond.code Lib.Math.min.name Lib.Math.min.code 2 (some .int), Cond.fieldLink RX3 13 "CraneReachModel" "out" "[I", Cond.fieldLink RX3 46 "CraneReachModel" "plates" "I"]
def wsX3_setDown_r2 : List Cond := [Cond.methodLink RX3 62 yX3_no, Cond.instanceMethod yX3_no, Cond.selects RX3 yX3_no yX3_no, Cond.code yX3_no cX3_no 2 (some .int)]
def wsX3_setDown : List Cond := .code yX3_setDown cX3_setDown 2 (some .int) :: ((wsX3_setDown_r1 ++ wsX3_setDown_r2) ++ wsX30)
def wsX3_moved : List Cond := .code yX3_moved cX3_moved 1 none :: ([.fieldLink RX3 84 "CraneReachModel" "moves" "I", .fieldLink RX3 53 "CraneReachModel" "load" "I"] ++ wsX30)
def wsX3_swing_r1 : List Cond := [Cond.fieldLink RX3 26 "CraneReachModel" "thrown" "I", Cond.fieldLink RX3 56 "CraneReachModel" "direction" "I", Cond.fieldLink RX3 53 "CraneReachModel" "load" "I", Cond.fieldLink RX3 9 "CraneReachModel" "reach" "I", Cond.methodLink RX3 29 yX3_isIn, Cond.static yX3_isIn, Cond.initialized RX3, Cond.code yX3_isIn cX3_isIn 3 (some .boolean), Cond.methodLink RX3 62 yX3_no, Cond.instanceMethod yX3_no, Cond.selects RX3 yX3_no yX3_no, Cond.code yX3_no cX3_no 2 (some .int), Cond.methodLink RX3 59 yX3_isSafe, Cond.instanceMethod yX3_isSafe, Cond.selects RX3 yX3_isSafe yX3_isSafe, Cond.code yX3_isSafe cX3_isSafe 5 (some .boolean), Cond.fieldLink RX3 17 "CraneReachModel" "limit" "[I", Cond.methodLink RX3 49 yX3_strain, Cond.instanceMethod yX3_strain, Cond.selects RX3 yX3_strain yX3_strain, Cond.code yX3_strain cX3_strain 8 (some .int), Cond.methodLink RX3 33 Lib.Math.abs.name, Cond.static Lib.Math.abs.name, Cond.initialized "java/lang/Math"]
def wsX3_swing_r2 : List Cond := [Cond.code Lib.Math.abs.name Lib.Math.abs.code 1 (some .int), Cond.fieldLink RX3 39 "CraneReachModel" "SLANT" "[I", Cond.methodLink RX3 42 Lib.Math.min.name, Cond.static Lib.Math.min.name, Cond.code Lib.Math.min.name Lib.Math.min.code 2 (some .int), Cond.fieldLink RX3 13 "CraneReachModel" "out" "[I", Cond.fieldLink RX3 46 "CraneReachModel" "plates" "I", Cond.methodLink RX3 87 yX3_moved, Cond.instanceMethod yX3_moved, Cond.selects RX3 yX3_moved yX3_moved, Cond.code yX3_moved cX3_moved 1 none, Cond.fieldLink RX3 84 "CraneReachModel" "moves" "I"]
def wsX3_swing : List Cond := .code yX3_swing cX3_swing 5 (some .int) :: ((wsX3_swing_r1 ++ wsX3_swing_r2) ++ wsX30)
def wsX3_stretch_r1 : List Cond := [Cond.fieldLink RX3 26 "CraneReachModel" "thrown" "I", Cond.fieldLink RX3 9 "CraneReachModel" "reach" "I", Cond.fieldLink RX3 53 "CraneReachModel" "load" "I", Cond.fieldLink RX3 56 "CraneReachModel" "direction" "I", Cond.methodLink RX3 29 yX3_isIn, Cond.static yX3_isIn, Cond.initialized RX3, Cond.code yX3_isIn cX3_isIn 3 (some .boolean), Cond.methodLink RX3 62 yX3_no, Cond.instanceMethod yX3_no, Cond.selects RX3 yX3_no yX3_no, Cond.code yX3_no cX3_no 2 (some .int), Cond.methodLink RX3 72 yX3_isReach, Cond.static yX3_isReach, Cond.code yX3_isReach cX3_isReach 1 (some .boolean), Cond.methodLink RX3 59 yX3_isSafe, Cond.instanceMethod yX3_isSafe, Cond.selects RX3 yX3_isSafe yX3_isSafe, Cond.code yX3_isSafe cX3_isSafe 5 (some .boolean), Cond.fieldLink RX3 17 "CraneReachModel" "limit" "[I", Cond.methodLink RX3 49 yX3_strain, Cond.instanceMethod yX3_strain, Cond.selects RX3 yX3_strain yX3_strain, Cond.code yX3_strain cX3_strain 8 (some .int)]
def wsX3_stretch_r2 : List Cond := [Cond.methodLink RX3 33 Lib.Math.abs.name, Cond.static Lib.Math.abs.name, Cond.initialized "java/lang/Math", Cond.code Lib.Math.abs.name Lib.Math.abs.code 1 (some .int), Cond.fieldLink RX3 39 "CraneReachModel" "SLANT" "[I", Cond.methodLink RX3 42 Lib.Math.min.name, Cond.static Lib.Math.min.name, Cond.code Lib.Math.min.name Lib.Math.min.code 2 (some .int), Cond.fieldLink RX3 13 "CraneReachModel" "out" "[I", Cond.fieldLink RX3 46 "CraneReachModel" "plates" "I", Cond.methodLink RX3 87 yX3_moved, Cond.instanceMethod yX3_moved, Cond.selects RX3 yX3_moved yX3_moved, Cond.code yX3_moved cX3_moved 1 none, Cond.fieldLink RX3 84 "CraneReachModel" "moves" "I"]
def wsX3_stretch : List Cond := .code yX3_stretch cX3_stretch 5 (some .int) :: ((wsX3_stretch_r1 ++ wsX3_stretch_r2) ++ wsX30)
def wsX3_ok : List Cond := .code yX3_ok cX3_ok 2 (some .int) :: ([.fieldLink RX3 26 "CraneReachModel" "thrown" "I"] ++ wsX30)
def wsX3_direction : List Cond := .code yX3_direction cX3_direction 1 (some .int) :: ([.fieldLink RX3 56 "CraneReachModel" "direction" "I", .methodLink RX3 90 yX3_ok, .instanceMethod yX3_ok, .selects RX3 yX3_ok yX3_ok, .initialized RX3, .code yX3_ok cX3_ok 2 (some .int), .fieldLink RX3 26 "CraneReachModel" "thrown" "I"] ++ wsX30)
def wsX3_reach : List Cond := .code yX3_reach cX3_reach 1 (some .int) :: ([.fieldLink RX3 9 "CraneReachModel" "reach" "I", .methodLink RX3 90 yX3_ok, .instanceMethod yX3_ok, .selects RX3 yX3_ok yX3_ok, .initialized RX3, .code yX3_ok cX3_ok 2 (some .int), .fieldLink RX3 26 "CraneReachModel" "thrown" "I"] ++ wsX30)
def wsX3_load : List Cond := .code yX3_load cX3_load 1 (some .int) :: ([.fieldLink RX3 53 "CraneReachModel" "load" "I", .methodLink RX3 90 yX3_ok, .instanceMethod yX3_ok, .selects RX3 yX3_ok yX3_ok, .initialized RX3, .code yX3_ok cX3_ok 2 (some .int), .fieldLink RX3 26 "CraneReachModel" "thrown" "I"] ++ wsX30)
def wsX3_plates : List Cond := .code yX3_plates cX3_plates 1 (some .int) :: ([.fieldLink RX3 46 "CraneReachModel" "plates" "I", .methodLink RX3 90 yX3_ok, .instanceMethod yX3_ok, .selects RX3 yX3_ok yX3_ok, .initialized RX3, .code yX3_ok cX3_ok 2 (some .int), .fieldLink RX3 26 "CraneReachModel" "thrown" "I"] ++ wsX30)
def wsX3_outrigger : List Cond := .code yX3_outrigger cX3_outrigger 2 (some .int) :: ([.fieldLink RX3 26 "CraneReachModel" "thrown" "I", .fieldLink RX3 13 "CraneReachModel" "out" "[I", .methodLink RX3 68 yX3_isSide, .static yX3_isSide, .initialized RX3, .code yX3_isSide cX3_isSide 1 (some .boolean), .methodLink RX3 29 yX3_isIn, .static yX3_isIn, .code yX3_isIn cX3_isIn 3 (some .boolean), .methodLink RX3 62 yX3_no, .instanceMethod yX3_no, .selects RX3 yX3_no yX3_no, .code yX3_no cX3_no 2 (some .int)] ++ wsX30)
def wsX3_limitAt : List Cond := .code yX3_limitAt cX3_limitAt 2 (some .int) :: ([.fieldLink RX3 26 "CraneReachModel" "thrown" "I", .fieldLink RX3 17 "CraneReachModel" "limit" "[I", .methodLink RX3 72 yX3_isReach, .static yX3_isReach, .initialized RX3, .code yX3_isReach cX3_isReach 1 (some .boolean), .methodLink RX3 29 yX3_isIn, .static yX3_isIn, .code yX3_isIn cX3_isIn 3 (some .boolean), .methodLink RX3 62 yX3_no, .instanceMethod yX3_no, .selects RX3 yX3_no yX3_no, .code yX3_no cX3_no 2 (some .int)] ++ wsX30)
def wsX3_strainNow : List Cond := .code yX3_strainNow cX3_strainNow 2 (some .int) :: ([.fieldLink RX3 53 "CraneReachModel" "load" "I", .fieldLink RX3 56 "CraneReachModel" "direction" "I", .fieldLink RX3 9 "CraneReachModel" "reach" "I", .methodLink RX3 49 yX3_strain, .instanceMethod yX3_strain, .selects RX3 yX3_strain yX3_strain, .initialized RX3, .code yX3_strain cX3_strain 8 (some .int), .methodLink RX3 33 Lib.Math.abs.name, .static Lib.Math.abs.name, .initialized "java/lang/Math", .code Lib.Math.abs.name Lib.Math.abs.code 1 (some .int), .fieldLink RX3 39 "CraneReachModel" "SLANT" "[I", .methodLink RX3 42 Lib.Math.min.name, .static Lib.Math.min.name, .code Lib.Math.min.name Lib.Math.min.code 2 (some .int), .fieldLink RX3 13 "CraneReachModel" "out" "[I", .fieldLink RX3 46 "CraneReachModel" "plates" "I"] ++ wsX30)
def wsX3_strainOn_r1 : List Cond := [Cond.fieldLink RX3 26 "CraneReachModel" "thrown" "I", Cond.methodLink RX3 68 yX3_isSide, Cond.static yX3_isSide, Cond.initialized RX3, Cond.code yX3_isSide cX3_isSide 1 (some .boolean), Cond.methodLink RX3 29 yX3_isIn, Cond.static yX3_isIn, Cond.code yX3_isIn cX3_isIn 3 (some .boolean), Cond.methodLink RX3 93 yX3_strainNow, Cond.instanceMethod yX3_strainNow, Cond.selects RX3 yX3_strainNow yX3_strainNow, Cond.code yX3_strainNow cX3_strainNow 2 (some .int), Cond.fieldLink RX3 53 "CraneReachModel" "load" "I", Cond.fieldLink RX3 56 "CraneReachModel" "direction" "I", Cond.fieldLink RX3 9 "CraneReachModel" "reach" "I", Cond.methodLink RX3 49 yX3_strain, Cond.instanceMethod yX3_strain, Cond.selects RX3 yX3_strain yX3_strain, Cond.code yX3_strain cX3_strain 8 (some .int), Cond.methodLink RX3 33 Lib.Math.abs.name, Cond.static Lib.Math.abs.name, Cond.initialized "java/lang/Math", Cond.code Lib.Math.abs.name Lib.Math.abs.code 1 (some .int), Cond.fieldLink RX3 39 "CraneReachModel" "SLANT" "[I"]
def wsX3_strainOn_r2 : List Cond := [Cond.methodLink RX3 42 Lib.Math.min.name, Cond.static Lib.Math.min.name, Cond.code Lib.Math.min.name Lib.Math.min.code 2 (some .int), Cond.fieldLink RX3 13 "CraneReachModel" "out" "[I", Cond.fieldLink RX3 46 "CraneReachModel" "plates" "I", Cond.methodLink RX3 62 yX3_no, Cond.instanceMethod yX3_no, Cond.selects RX3 yX3_no yX3_no, Cond.code yX3_no cX3_no 2 (some .int)]
def wsX3_strainOn : List Cond := .code yX3_strainOn cX3_strainOn 2 (some .int) :: ((wsX3_strainOn_r1 ++ wsX3_strainOn_r2) ++ wsX30)
def wsX3_weakest : List Cond := .code yX3_weakest cX3_weakest 3 (some .int) :: ([.methodLink RX3 93 yX3_strainNow, .instanceMethod yX3_strainNow, .selects RX3 yX3_strainNow yX3_strainNow, .initialized RX3, .code yX3_strainNow cX3_strainNow 2 (some .int), .fieldLink RX3 53 "CraneReachModel" "load" "I", .fieldLink RX3 56 "CraneReachModel" "direction" "I", .fieldLink RX3 9 "CraneReachModel" "reach" "I", .methodLink RX3 49 yX3_strain, .instanceMethod yX3_strain, .selects RX3 yX3_strain yX3_strain, .code yX3_strain cX3_strain 8 (some .int), .methodLink RX3 33 Lib.Math.abs.name, .static Lib.Math.abs.name, .initialized "java/lang/Math", .code Lib.Math.abs.name Lib.Math.abs.code 1 (some .int), .fieldLink RX3 39 "CraneReachModel" "SLANT" "[I", .methodLink RX3 42 Lib.Math.min.name, .static Lib.Math.min.name, .code Lib.Math.min.name Lib.Math.min.code 2 (some .int), .fieldLink RX3 13 "CraneReachModel" "out" "[I", .fieldLink RX3 46 "CraneReachModel" "plates" "I"] ++ wsX30)
def wsX3_weakestSide_r1 : List Cond := [Cond.methodLink RX3 96 yX3_weakest, Cond.instanceMethod yX3_weakest, Cond.selects RX3 yX3_weakest yX3_weakest, Cond.initialized RX3, Cond.code yX3_weakest cX3_weakest 3 (some .int), Cond.methodLink RX3 93 yX3_strainNow, Cond.instanceMethod yX3_strainNow, Cond.selects RX3 yX3_strainNow yX3_strainNow, Cond.code yX3_strainNow cX3_strainNow 2 (some .int), Cond.fieldLink RX3 53 "CraneReachModel" "load" "I", Cond.fieldLink RX3 56 "CraneReachModel" "direction" "I", Cond.fieldLink RX3 9 "CraneReachModel" "reach" "I", Cond.methodLink RX3 49 yX3_strain, Cond.instanceMethod yX3_strain, Cond.selects RX3 yX3_strain yX3_strain, Cond.code yX3_strain cX3_strain 8 (some .int), Cond.methodLink RX3 33 Lib.Math.abs.name, Cond.static Lib.Math.abs.name, Cond.initialized "java/lang/Math", Cond.code Lib.Math.abs.name Lib.Math.abs.code 1 (some .int), Cond.fieldLink RX3 39 "CraneReachModel" "SLANT" "[I", Cond.methodLink RX3 42 Lib.Math.min.name, Cond.static Lib.Math.min.name, Cond.code Lib.Math.min.name Lib.Math.min.code 2 (some .int)]
def wsX3_weakestSide_r2 : List Cond := [Cond.fieldLink RX3 13 "CraneReachModel" "out" "[I", Cond.fieldLink RX3 46 "CraneReachModel" "plates" "I", Cond.methodLink RX3 90 yX3_ok, Cond.instanceMethod yX3_ok, Cond.selects RX3 yX3_ok yX3_ok, Cond.code yX3_ok cX3_ok 2 (some .int), Cond.fieldLink RX3 26 "CraneReachModel" "thrown" "I"]
def wsX3_weakestSide : List Cond := .code yX3_weakestSide cX3_weakestSide 1 (some .int) :: ((wsX3_weakestSide_r1 ++ wsX3_weakestSide_r2) ++ wsX30)
def wsX3_lifts : List Cond := .code yX3_lifts cX3_lifts 1 (some .int) :: ([.fieldLink RX3 78 "CraneReachModel" "lifts" "I", .methodLink RX3 90 yX3_ok, .instanceMethod yX3_ok, .selects RX3 yX3_ok yX3_ok, .initialized RX3, .code yX3_ok cX3_ok 2 (some .int), .fieldLink RX3 26 "CraneReachModel" "thrown" "I"] ++ wsX30)
def wsX3_tonsLifted : List Cond := .code yX3_tonsLifted cX3_tonsLifted 1 (some .int) :: ([.fieldLink RX3 81 "CraneReachModel" "tons" "I", .methodLink RX3 90 yX3_ok, .instanceMethod yX3_ok, .selects RX3 yX3_ok yX3_ok, .initialized RX3, .code yX3_ok cX3_ok 2 (some .int), .fieldLink RX3 26 "CraneReachModel" "thrown" "I"] ++ wsX30)
def wsX3_movesWithLoad : List Cond := .code yX3_movesWithLoad cX3_movesWithLoad 1 (some .int) :: ([.fieldLink RX3 84 "CraneReachModel" "moves" "I", .methodLink RX3 90 yX3_ok, .instanceMethod yX3_ok, .selects RX3 yX3_ok yX3_ok, .initialized RX3, .code yX3_ok cX3_ok 2 (some .int), .fieldLink RX3 26 "CraneReachModel" "thrown" "I"] ++ wsX30)
def wsX3_isSafeWith_r1 : List Cond := [Cond.fieldLink RX3 26 "CraneReachModel" "thrown" "I", Cond.methodLink RX3 100 yX3_isDirection, Cond.static yX3_isDirection, Cond.initialized RX3, Cond.code yX3_isDirection cX3_isDirection 1 (some .boolean), Cond.methodLink RX3 29 yX3_isIn, Cond.static yX3_isIn, Cond.code yX3_isIn cX3_isIn 3 (some .boolean), Cond.methodLink RX3 103 yX3_isNot, Cond.instanceMethod yX3_isNot, Cond.selects RX3 yX3_isNot yX3_isNot, Cond.code yX3_isNot cX3_isNot 2 (some .boolean), Cond.methodLink RX3 75 yX3_isLoad, Cond.static yX3_isLoad, Cond.code yX3_isLoad cX3_isLoad 1 (some .boolean), Cond.methodLink RX3 72 yX3_isReach, Cond.static yX3_isReach, Cond.code yX3_isReach cX3_isReach 1 (some .boolean), Cond.methodLink RX3 59 yX3_isSafe, Cond.instanceMethod yX3_isSafe, Cond.selects RX3 yX3_isSafe yX3_isSafe, Cond.code yX3_isSafe cX3_isSafe 5 (some .boolean), Cond.fieldLink RX3 17 "CraneReachModel" "limit" "[I", Cond.methodLink RX3 49 yX3_strain]
def wsX3_isSafeWith_r2 : List Cond := [Cond.instanceMethod yX3_strain, Cond.selects RX3 yX3_strain yX3_strain, Cond.code yX3_strain cX3_strain 8 (some .int), Cond.methodLink RX3 33 Lib.Math.abs.name, Cond.static Lib.Math.abs.name, Cond.initialized "java/lang/Math", Cond.code Lib.Math.abs.name Lib.Math.abs.code 1 (some .int), Cond.fieldLink RX3 39 "CraneReachModel" "SLANT" "[I", Cond.methodLink RX3 42 Lib.Math.min.name, Cond.static Lib.Math.min.name, Cond.code Lib.Math.min.name Lib.Math.min.code 2 (some .int), Cond.fieldLink RX3 13 "CraneReachModel" "out" "[I", Cond.fieldLink RX3 46 "CraneReachModel" "plates" "I"]
def wsX3_isSafeWith : List Cond := .code yX3_isSafeWith cX3_isSafeWith 4 (some .boolean) :: ((wsX3_isSafeWith_r1 ++ wsX3_isSafeWith_r2) ++ wsX30)
def wsX3_greatest : List Cond := .code yX3_greatest cX3_greatest 2 (some .int) :: ([.fieldLink RX3 56 "CraneReachModel" "direction" "I", .fieldLink RX3 9 "CraneReachModel" "reach" "I", .methodLink RX3 59 yX3_isSafe, .instanceMethod yX3_isSafe, .selects RX3 yX3_isSafe yX3_isSafe, .initialized RX3, .code yX3_isSafe cX3_isSafe 5 (some .boolean), .fieldLink RX3 17 "CraneReachModel" "limit" "[I", .methodLink RX3 49 yX3_strain, .instanceMethod yX3_strain, .selects RX3 yX3_strain yX3_strain, .code yX3_strain cX3_strain 8 (some .int), .methodLink RX3 33 Lib.Math.abs.name, .static Lib.Math.abs.name, .initialized "java/lang/Math", .code Lib.Math.abs.name Lib.Math.abs.code 1 (some .int), .fieldLink RX3 39 "CraneReachModel" "SLANT" "[I", .methodLink RX3 42 Lib.Math.min.name, .static Lib.Math.min.name, .code Lib.Math.min.name Lib.Math.min.code 2 (some .int), .fieldLink RX3 13 "CraneReachModel" "out" "[I", .fieldLink RX3 46 "CraneReachModel" "plates" "I"] ++ wsX30)
def wsX3_greatestLoad_r1 : List Cond := [Cond.methodLink RX3 106 yX3_greatest, Cond.instanceMethod yX3_greatest, Cond.selects RX3 yX3_greatest yX3_greatest, Cond.initialized RX3, Cond.code yX3_greatest cX3_greatest 2 (some .int), Cond.fieldLink RX3 56 "CraneReachModel" "direction" "I", Cond.fieldLink RX3 9 "CraneReachModel" "reach" "I", Cond.methodLink RX3 59 yX3_isSafe, Cond.instanceMethod yX3_isSafe, Cond.selects RX3 yX3_isSafe yX3_isSafe, Cond.code yX3_isSafe cX3_isSafe 5 (some .boolean), Cond.fieldLink RX3 17 "CraneReachModel" "limit" "[I", Cond.methodLink RX3 49 yX3_strain, Cond.instanceMethod yX3_strain, Cond.selects RX3 yX3_strain yX3_strain, Cond.code yX3_strain cX3_strain 8 (some .int), Cond.methodLink RX3 33 Lib.Math.abs.name, Cond.static Lib.Math.abs.name, Cond.initialized "java/lang/Math", Cond.code Lib.Math.abs.name Lib.Math.abs.code 1 (some .int), Cond.fieldLink RX3 39 "CraneReachModel" "SLANT" "[I", Cond.methodLink RX3 42 Lib.Math.min.name, Cond.static Lib.Math.min.name, Cond.code Lib.Math.min.name Lib.Math.min.code 2 (some .int)]
def wsX3_greatestLoad_r2 : List Cond := [Cond.fieldLink RX3 13 "CraneReachModel" "out" "[I", Cond.fieldLink RX3 46 "CraneReachModel" "plates" "I", Cond.methodLink RX3 90 yX3_ok, Cond.instanceMethod yX3_ok, Cond.selects RX3 yX3_ok yX3_ok, Cond.code yX3_ok cX3_ok 2 (some .int), Cond.fieldLink RX3 26 "CraneReachModel" "thrown" "I"]
def wsX3_greatestLoad : List Cond := .code yX3_greatestLoad cX3_greatestLoad 1 (some .int) :: ((wsX3_greatestLoad_r1 ++ wsX3_greatestLoad_r2) ++ wsX30)
def wsX3_farthestReach_r1 : List Cond := [Cond.fieldLink RX3 26 "CraneReachModel" "thrown" "I", Cond.methodLink RX3 100 yX3_isDirection, Cond.static yX3_isDirection, Cond.initialized RX3, Cond.code yX3_isDirection cX3_isDirection 1 (some .boolean), Cond.methodLink RX3 29 yX3_isIn, Cond.static yX3_isIn, Cond.code yX3_isIn cX3_isIn 3 (some .boolean), Cond.methodLink RX3 62 yX3_no, Cond.instanceMethod yX3_no, Cond.selects RX3 yX3_no yX3_no, Cond.code yX3_no cX3_no 2 (some .int), Cond.methodLink RX3 75 yX3_isLoad, Cond.static yX3_isLoad, Cond.code yX3_isLoad cX3_isLoad 1 (some .boolean), Cond.methodLink RX3 59 yX3_isSafe, Cond.instanceMethod yX3_isSafe, Cond.selects RX3 yX3_isSafe yX3_isSafe, Cond.code yX3_isSafe cX3_isSafe 5 (some .boolean), Cond.fieldLink RX3 17 "CraneReachModel" "limit" "[I", Cond.methodLink RX3 49 yX3_strain, Cond.instanceMethod yX3_strain, Cond.selects RX3 yX3_strain yX3_strain, Cond.code yX3_strain cX3_strain 8 (some .int)]
def wsX3_farthestReach_r2 : List Cond := [Cond.methodLink RX3 33 Lib.Math.abs.name, Cond.static Lib.Math.abs.name, Cond.initialized "java/lang/Math", Cond.code Lib.Math.abs.name Lib.Math.abs.code 1 (some .int), Cond.fieldLink RX3 39 "CraneReachModel" "SLANT" "[I", Cond.methodLink RX3 42 Lib.Math.min.name, Cond.static Lib.Math.min.name, Cond.code Lib.Math.min.name Lib.Math.min.code 2 (some .int), Cond.fieldLink RX3 13 "CraneReachModel" "out" "[I", Cond.fieldLink RX3 46 "CraneReachModel" "plates" "I"]
def wsX3_farthestReach : List Cond := .code yX3_farthestReach cX3_farthestReach 4 (some .int) :: ((wsX3_farthestReach_r1 ++ wsX3_farthestReach_r2) ++ wsX30)
def wsX3_safeAround : List Cond := .code yX3_safeAround cX3_safeAround 5 (some .int) :: ([.methodLink RX3 59 yX3_isSafe, .instanceMethod yX3_isSafe, .selects RX3 yX3_isSafe yX3_isSafe, .initialized RX3, .code yX3_isSafe cX3_isSafe 5 (some .boolean), .fieldLink RX3 17 "CraneReachModel" "limit" "[I", .methodLink RX3 49 yX3_strain, .instanceMethod yX3_strain, .selects RX3 yX3_strain yX3_strain, .code yX3_strain cX3_strain 8 (some .int), .methodLink RX3 33 Lib.Math.abs.name, .static Lib.Math.abs.name, .initialized "java/lang/Math", .code Lib.Math.abs.name Lib.Math.abs.code 1 (some .int), .fieldLink RX3 39 "CraneReachModel" "SLANT" "[I", .methodLink RX3 42 Lib.Math.min.name, .static Lib.Math.min.name, .code Lib.Math.min.name Lib.Math.min.code 2 (some .int), .fieldLink RX3 13 "CraneReachModel" "out" "[I", .fieldLink RX3 46 "CraneReachModel" "plates" "I"] ++ wsX30)
def wsX3_safeDirections_r1 : List Cond := [Cond.fieldLink RX3 26 "CraneReachModel" "thrown" "I", Cond.methodLink RX3 75 yX3_isLoad, Cond.static yX3_isLoad, Cond.initialized RX3, Cond.code yX3_isLoad cX3_isLoad 1 (some .boolean), Cond.methodLink RX3 29 yX3_isIn, Cond.static yX3_isIn, Cond.code yX3_isIn cX3_isIn 3 (some .boolean), Cond.methodLink RX3 72 yX3_isReach, Cond.static yX3_isReach, Cond.code yX3_isReach cX3_isReach 1 (some .boolean), Cond.methodLink RX3 109 yX3_safeAround, Cond.instanceMethod yX3_safeAround, Cond.selects RX3 yX3_safeAround yX3_safeAround, Cond.code yX3_safeAround cX3_safeAround 5 (some .int), Cond.methodLink RX3 59 yX3_isSafe, Cond.instanceMethod yX3_isSafe, Cond.selects RX3 yX3_isSafe yX3_isSafe, Cond.code yX3_isSafe cX3_isSafe 5 (some .boolean), Cond.fieldLink RX3 17 "CraneReachModel" "limit" "[I", Cond.methodLink RX3 49 yX3_strain, Cond.instanceMethod yX3_strain, Cond.selects RX3 yX3_strain yX3_strain, Cond.code yX3_strain cX3_strain 8 (some .int)]
def wsX3_safeDirections_r2 : List Cond := [Cond.methodLink RX3 33 Lib.Math.abs.name, Cond.static Lib.Math.abs.name, Cond.initialized "java/lang/Math", Cond.code Lib.Math.abs.name Lib.Math.abs.code 1 (some .int), Cond.fieldLink RX3 39 "CraneReachModel" "SLANT" "[I", Cond.methodLink RX3 42 Lib.Math.min.name, Cond.static Lib.Math.min.name, Cond.code Lib.Math.min.name Lib.Math.min.code 2 (some .int), Cond.fieldLink RX3 13 "CraneReachModel" "out" "[I", Cond.fieldLink RX3 46 "CraneReachModel" "plates" "I", Cond.methodLink RX3 62 yX3_no, Cond.instanceMethod yX3_no, Cond.selects RX3 yX3_no yX3_no, Cond.code yX3_no cX3_no 2 (some .int)]
def wsX3_safeDirections : List Cond := .code yX3_safeDirections cX3_safeDirections 3 (some .int) :: ((wsX3_safeDirections_r1 ++ wsX3_safeDirections_r2) ++ wsX30)
def wsX3_fewestPlates : List Cond := .code yX3_fewestPlates cX3_fewestPlates 6 (some .int) :: ([.fieldLink RX3 46 "CraneReachModel" "plates" "I", .methodLink RX3 59 yX3_isSafe, .instanceMethod yX3_isSafe, .selects RX3 yX3_isSafe yX3_isSafe, .initialized RX3, .code yX3_isSafe cX3_isSafe 5 (some .boolean), .fieldLink RX3 17 "CraneReachModel" "limit" "[I", .methodLink RX3 49 yX3_strain, .instanceMethod yX3_strain, .selects RX3 yX3_strain yX3_strain, .code yX3_strain cX3_strain 8 (some .int), .methodLink RX3 33 Lib.Math.abs.name, .static Lib.Math.abs.name, .initialized "java/lang/Math", .code Lib.Math.abs.name Lib.Math.abs.code 1 (some .int), .fieldLink RX3 39 "CraneReachModel" "SLANT" "[I", .methodLink RX3 42 Lib.Math.min.name, .static Lib.Math.min.name, .code Lib.Math.min.name Lib.Math.min.code 2 (some .int), .fieldLink RX3 13 "CraneReachModel" "out" "[I"] ++ wsX30)
def wsX3_platesNeeded_r1 : List Cond := [Cond.fieldLink RX3 26 "CraneReachModel" "thrown" "I", Cond.methodLink RX3 100 yX3_isDirection, Cond.static yX3_isDirection, Cond.initialized RX3, Cond.code yX3_isDirection cX3_isDirection 1 (some .boolean), Cond.methodLink RX3 29 yX3_isIn, Cond.static yX3_isIn, Cond.code yX3_isIn cX3_isIn 3 (some .boolean), Cond.methodLink RX3 62 yX3_no, Cond.instanceMethod yX3_no, Cond.selects RX3 yX3_no yX3_no, Cond.code yX3_no cX3_no 2 (some .int), Cond.methodLink RX3 75 yX3_isLoad, Cond.static yX3_isLoad, Cond.code yX3_isLoad cX3_isLoad 1 (some .boolean), Cond.methodLink RX3 72 yX3_isReach, Cond.static yX3_isReach, Cond.code yX3_isReach cX3_isReach 1 (some .boolean), Cond.methodLink RX3 112 yX3_fewestPlates, Cond.instanceMethod yX3_fewestPlates, Cond.selects RX3 yX3_fewestPlates yX3_fewestPlates, Cond.code yX3_fewestPlates cX3_fewestPlates 6 (some .int), Cond.fieldLink RX3 46 "CraneReachModel" "plates" "I", Cond.methodLink RX3 59 yX3_isSafe]
def wsX3_platesNeeded_r2 : List Cond := [Cond.instanceMethod yX3_isSafe, Cond.selects RX3 yX3_isSafe yX3_isSafe, Cond.code yX3_isSafe cX3_isSafe 5 (some .boolean), Cond.fieldLink RX3 17 "CraneReachModel" "limit" "[I", Cond.methodLink RX3 49 yX3_strain, Cond.instanceMethod yX3_strain, Cond.selects RX3 yX3_strain yX3_strain, Cond.code yX3_strain cX3_strain 8 (some .int), Cond.methodLink RX3 33 Lib.Math.abs.name, Cond.static Lib.Math.abs.name, Cond.initialized "java/lang/Math", Cond.code Lib.Math.abs.name Lib.Math.abs.code 1 (some .int), Cond.fieldLink RX3 39 "CraneReachModel" "SLANT" "[I", Cond.methodLink RX3 42 Lib.Math.min.name, Cond.static Lib.Math.min.name, Cond.code Lib.Math.min.name Lib.Math.min.code 2 (some .int), Cond.fieldLink RX3 13 "CraneReachModel" "out" "[I"]
def wsX3_platesNeeded : List Cond := .code yX3_platesNeeded cX3_platesNeeded 4 (some .int) :: ((wsX3_platesNeeded_r1 ++ wsX3_platesNeeded_r2) ++ wsX30)
def wsX3_comeTo_r1 : List Cond := [Cond.fieldLink RX3 20 "CraneReachModel" "away" "[I", Cond.fieldLink RX3 23 "CraneReachModel" "queue" "[I", Cond.fieldLink RX3 116 "CraneReachModel" "many" "I", Cond.methodLink RX3 72 yX3_isReach, Cond.static yX3_isReach, Cond.initialized RX3, Cond.code yX3_isReach cX3_isReach 1 (some .boolean), Cond.methodLink RX3 29 yX3_isIn, Cond.static yX3_isIn, Cond.code yX3_isIn cX3_isIn 3 (some .boolean), Cond.methodLink RX3 59 yX3_isSafe, Cond.instanceMethod yX3_isSafe, Cond.selects RX3 yX3_isSafe yX3_isSafe, Cond.code yX3_isSafe cX3_isSafe 5 (some .boolean), Cond.fieldLink RX3 17 "CraneReachModel" "limit" "[I", Cond.methodLink RX3 49 yX3_strain, Cond.instanceMethod yX3_strain, Cond.selects RX3 yX3_strain yX3_strain, Cond.code yX3_strain cX3_strain 8 (some .int), Cond.methodLink RX3 33 Lib.Math.abs.name, Cond.static Lib.Math.abs.name, Cond.initialized "java/lang/Math", Cond.code Lib.Math.abs.name Lib.Math.abs.code 1 (some .int), Cond.fieldLink RX3 39 "CraneReachModel" "SLANT" "[I"]
def wsX3_comeTo_r2 : List Cond := [Cond.methodLink RX3 42 Lib.Math.min.name, Cond.static Lib.Math.min.name, Cond.code Lib.Math.min.name Lib.Math.min.code 2 (some .int), Cond.fieldLink RX3 13 "CraneReachModel" "out" "[I", Cond.fieldLink RX3 46 "CraneReachModel" "plates" "I"]
def wsX3_comeTo : List Cond := .code yX3_comeTo cX3_comeTo 5 none :: ((wsX3_comeTo_r1 ++ wsX3_comeTo_r2) ++ wsX30)
def wsX3_goOut_r1 : List Cond := [Cond.fieldLink RX3 20 "CraneReachModel" "away" "[I", Cond.fieldLink RX3 116 "CraneReachModel" "many" "I", Cond.fieldLink RX3 56 "CraneReachModel" "direction" "I", Cond.fieldLink RX3 9 "CraneReachModel" "reach" "I", Cond.fieldLink RX3 23 "CraneReachModel" "queue" "[I", Cond.methodLink RX3 119 yX3_comeTo, Cond.instanceMethod yX3_comeTo, Cond.selects RX3 yX3_comeTo yX3_comeTo, Cond.initialized RX3, Cond.code yX3_comeTo cX3_comeTo 5 none, Cond.methodLink RX3 72 yX3_isReach, Cond.static yX3_isReach, Cond.code yX3_isReach cX3_isReach 1 (some .boolean), Cond.methodLink RX3 29 yX3_isIn, Cond.static yX3_isIn, Cond.code yX3_isIn cX3_isIn 3 (some .boolean), Cond.methodLink RX3 59 yX3_isSafe, Cond.instanceMethod yX3_isSafe, Cond.selects RX3 yX3_isSafe yX3_isSafe, Cond.code yX3_isSafe cX3_isSafe 5 (some .boolean), Cond.fieldLink RX3 17 "CraneReachModel" "limit" "[I", Cond.methodLink RX3 49 yX3_strain, Cond.instanceMethod yX3_strain, Cond.selects RX3 yX3_strain yX3_strain]
def wsX3_goOut_r2 : List Cond := [Cond.code yX3_strain cX3_strain 8 (some .int), Cond.methodLink RX3 33 Lib.Math.abs.name, Cond.static Lib.Math.abs.name, Cond.initialized "java/lang/Math", Cond.code Lib.Math.abs.name Lib.Math.abs.code 1 (some .int), Cond.fieldLink RX3 39 "CraneReachModel" "SLANT" "[I", Cond.methodLink RX3 42 Lib.Math.min.name, Cond.static Lib.Math.min.name, Cond.code Lib.Math.min.name Lib.Math.min.code 2 (some .int), Cond.fieldLink RX3 13 "CraneReachModel" "out" "[I", Cond.fieldLink RX3 46 "CraneReachModel" "plates" "I"]
def wsX3_goOut : List Cond := .code yX3_goOut cX3_goOut 6 none :: ((wsX3_goOut_r1 ++ wsX3_goOut_r2) ++ wsX30)
def wsX3_fewestMoves_r1 : List Cond := [Cond.fieldLink RX3 26 "CraneReachModel" "thrown" "I", Cond.fieldLink RX3 20 "CraneReachModel" "away" "[I", Cond.methodLink RX3 100 yX3_isDirection, Cond.static yX3_isDirection, Cond.initialized RX3, Cond.code yX3_isDirection cX3_isDirection 1 (some .boolean), Cond.methodLink RX3 29 yX3_isIn, Cond.static yX3_isIn, Cond.code yX3_isIn cX3_isIn 3 (some .boolean), Cond.methodLink RX3 62 yX3_no, Cond.instanceMethod yX3_no, Cond.selects RX3 yX3_no yX3_no, Cond.code yX3_no cX3_no 2 (some .int), Cond.methodLink RX3 75 yX3_isLoad, Cond.static yX3_isLoad, Cond.code yX3_isLoad cX3_isLoad 1 (some .boolean), Cond.methodLink RX3 72 yX3_isReach, Cond.static yX3_isReach, Cond.code yX3_isReach cX3_isReach 1 (some .boolean), Cond.methodLink RX3 123 yX3_goOut, Cond.instanceMethod yX3_goOut, Cond.selects RX3 yX3_goOut yX3_goOut, Cond.code yX3_goOut cX3_goOut 6 none, Cond.fieldLink RX3 116 "CraneReachModel" "many" "I"]
def wsX3_fewestMoves_r2 : List Cond := [Cond.fieldLink RX3 56 "CraneReachModel" "direction" "I", Cond.fieldLink RX3 9 "CraneReachModel" "reach" "I", Cond.fieldLink RX3 23 "CraneReachModel" "queue" "[I", Cond.methodLink RX3 119 yX3_comeTo, Cond.instanceMethod yX3_comeTo, Cond.selects RX3 yX3_comeTo yX3_comeTo, Cond.code yX3_comeTo cX3_comeTo 5 none, Cond.methodLink RX3 59 yX3_isSafe, Cond.instanceMethod yX3_isSafe, Cond.selects RX3 yX3_isSafe yX3_isSafe, Cond.code yX3_isSafe cX3_isSafe 5 (some .boolean), Cond.fieldLink RX3 17 "CraneReachModel" "limit" "[I", Cond.methodLink RX3 49 yX3_strain, Cond.instanceMethod yX3_strain, Cond.selects RX3 yX3_strain yX3_strain, Cond.code yX3_strain cX3_strain 8 (some .int), Cond.methodLink RX3 33 Lib.Math.abs.name, Cond.static Lib.Math.abs.name, Cond.initialized "java/lang/Math", Cond.code Lib.Math.abs.name Lib.Math.abs.code 1 (some .int), Cond.fieldLink RX3 39 "CraneReachModel" "SLANT" "[I", Cond.methodLink RX3 42 Lib.Math.min.name, Cond.static Lib.Math.min.name, Cond.code Lib.Math.min.name Lib.Math.min.code 2 (some .int)]
def wsX3_fewestMoves_r3 : List Cond := [Cond.fieldLink RX3 13 "CraneReachModel" "out" "[I", Cond.fieldLink RX3 46 "CraneReachModel" "plates" "I"]
def wsX3_fewestMoves : List Cond := .code yX3_fewestMoves cX3_fewestMoves 4 (some .int) :: ((wsX3_fewestMoves_r1 ++ (wsX3_fewestMoves_r2 ++ wsX3_fewestMoves_r3)) ++ wsX30)
def wsX3_within_r1 : List Cond := [Cond.fieldLink RX3 116 "CraneReachModel" "many" "I", Cond.methodLink RX3 123 yX3_goOut, Cond.instanceMethod yX3_goOut, Cond.selects RX3 yX3_goOut yX3_goOut, Cond.initialized RX3, Cond.code yX3_goOut cX3_goOut 6 none, Cond.fieldLink RX3 20 "CraneReachModel" "away" "[I", Cond.fieldLink RX3 56 "CraneReachModel" "direction" "I", Cond.fieldLink RX3 9 "CraneReachModel" "reach" "I", Cond.fieldLink RX3 23 "CraneReachModel" "queue" "[I", Cond.methodLink RX3 119 yX3_comeTo, Cond.instanceMethod yX3_comeTo, Cond.selects RX3 yX3_comeTo yX3_comeTo, Cond.code yX3_comeTo cX3_comeTo 5 none, Cond.methodLink RX3 72 yX3_isReach, Cond.static yX3_isReach, Cond.code yX3_isReach cX3_isReach 1 (some .boolean), Cond.methodLink RX3 29 yX3_isIn, Cond.static yX3_isIn, Cond.code yX3_isIn cX3_isIn 3 (some .boolean), Cond.methodLink RX3 59 yX3_isSafe, Cond.instanceMethod yX3_isSafe, Cond.selects RX3 yX3_isSafe yX3_isSafe, Cond.code yX3_isSafe cX3_isSafe 5 (some .boolean)]
def wsX3_within_r2 : List Cond := [Cond.fieldLink RX3 17 "CraneReachModel" "limit" "[I", Cond.methodLink RX3 49 yX3_strain, Cond.instanceMethod yX3_strain, Cond.selects RX3 yX3_strain yX3_strain, Cond.code yX3_strain cX3_strain 8 (some .int), Cond.methodLink RX3 33 Lib.Math.abs.name, Cond.static Lib.Math.abs.name, Cond.initialized "java/lang/Math", Cond.code Lib.Math.abs.name Lib.Math.abs.code 1 (some .int), Cond.fieldLink RX3 39 "CraneReachModel" "SLANT" "[I", Cond.methodLink RX3 42 Lib.Math.min.name, Cond.static Lib.Math.min.name, Cond.code Lib.Math.min.name Lib.Math.min.code 2 (some .int), Cond.fieldLink RX3 13 "CraneReachModel" "out" "[I", Cond.fieldLink RX3 46 "CraneReachModel" "plates" "I"]
def wsX3_within : List Cond := .code yX3_within cX3_within 2 (some .int) :: ((wsX3_within_r1 ++ wsX3_within_r2) ++ wsX30)
def wsX3_placesWithin_r1 : List Cond := [Cond.fieldLink RX3 26 "CraneReachModel" "thrown" "I", Cond.methodLink RX3 75 yX3_isLoad, Cond.static yX3_isLoad, Cond.initialized RX3, Cond.code yX3_isLoad cX3_isLoad 1 (some .boolean), Cond.methodLink RX3 29 yX3_isIn, Cond.static yX3_isIn, Cond.code yX3_isIn cX3_isIn 3 (some .boolean), Cond.methodLink RX3 127 yX3_within, Cond.instanceMethod yX3_within, Cond.selects RX3 yX3_within yX3_within, Cond.code yX3_within cX3_within 2 (some .int), Cond.fieldLink RX3 116 "CraneReachModel" "many" "I", Cond.methodLink RX3 123 yX3_goOut, Cond.instanceMethod yX3_goOut, Cond.selects RX3 yX3_goOut yX3_goOut, Cond.code yX3_goOut cX3_goOut 6 none, Cond.fieldLink RX3 20 "CraneReachModel" "away" "[I", Cond.fieldLink RX3 56 "CraneReachModel" "direction" "I", Cond.fieldLink RX3 9 "CraneReachModel" "reach" "I", Cond.fieldLink RX3 23 "CraneReachModel" "queue" "[I", Cond.methodLink RX3 119 yX3_comeTo, Cond.instanceMethod yX3_comeTo, Cond.selects RX3 yX3_comeTo yX3_comeTo]
def wsX3_placesWithin_r2 : List Cond := [Cond.code yX3_comeTo cX3_comeTo 5 none, Cond.methodLink RX3 72 yX3_isReach, Cond.static yX3_isReach, Cond.code yX3_isReach cX3_isReach 1 (some .boolean), Cond.methodLink RX3 59 yX3_isSafe, Cond.instanceMethod yX3_isSafe, Cond.selects RX3 yX3_isSafe yX3_isSafe, Cond.code yX3_isSafe cX3_isSafe 5 (some .boolean), Cond.fieldLink RX3 17 "CraneReachModel" "limit" "[I", Cond.methodLink RX3 49 yX3_strain, Cond.instanceMethod yX3_strain, Cond.selects RX3 yX3_strain yX3_strain, Cond.code yX3_strain cX3_strain 8 (some .int), Cond.methodLink RX3 33 Lib.Math.abs.name, Cond.static Lib.Math.abs.name, Cond.initialized "java/lang/Math", Cond.code Lib.Math.abs.name Lib.Math.abs.code 1 (some .int), Cond.fieldLink RX3 39 "CraneReachModel" "SLANT" "[I", Cond.methodLink RX3 42 Lib.Math.min.name, Cond.static Lib.Math.min.name, Cond.code Lib.Math.min.name Lib.Math.min.code 2 (some .int), Cond.fieldLink RX3 13 "CraneReachModel" "out" "[I", Cond.fieldLink RX3 46 "CraneReachModel" "plates" "I", Cond.methodLink RX3 62 yX3_no]
def wsX3_placesWithin_r3 : List Cond := [Cond.instanceMethod yX3_no, Cond.selects RX3 yX3_no yX3_no, Cond.code yX3_no cX3_no 2 (some .int)]
def wsX3_placesWithin : List Cond := .code yX3_placesWithin cX3_placesWithin 2 (some .int) :: ((wsX3_placesWithin_r1 ++ (wsX3_placesWithin_r2 ++ wsX3_placesWithin_r3)) ++ wsX30)
def wsX3_bestOutrigger_r1 : List Cond := [Cond.fieldLink RX3 26 "CraneReachModel" "thrown" "I", Cond.fieldLink RX3 13 "CraneReachModel" "out" "[I", Cond.methodLink RX3 75 yX3_isLoad, Cond.static yX3_isLoad, Cond.initialized RX3, Cond.code yX3_isLoad cX3_isLoad 1 (some .boolean), Cond.methodLink RX3 29 yX3_isIn, Cond.static yX3_isIn, Cond.code yX3_isIn cX3_isIn 3 (some .boolean), Cond.methodLink RX3 62 yX3_no, Cond.instanceMethod yX3_no, Cond.selects RX3 yX3_no yX3_no, Cond.code yX3_no cX3_no 2 (some .int), Cond.methodLink RX3 127 yX3_within, Cond.instanceMethod yX3_within, Cond.selects RX3 yX3_within yX3_within, Cond.code yX3_within cX3_within 2 (some .int), Cond.fieldLink RX3 116 "CraneReachModel" "many" "I", Cond.methodLink RX3 123 yX3_goOut, Cond.instanceMethod yX3_goOut, Cond.selects RX3 yX3_goOut yX3_goOut, Cond.code yX3_goOut cX3_goOut 6 none, Cond.fieldLink RX3 20 "CraneReachModel" "away" "[I", Cond.fieldLink RX3 56 "CraneReachModel" "direction" "I"]
def wsX3_bestOutrigger_r2 : List Cond := [Cond.fieldLink RX3 9 "CraneReachModel" "reach" "I", Cond.fieldLink RX3 23 "CraneReachModel" "queue" "[I", Cond.methodLink RX3 119 yX3_comeTo, Cond.instanceMethod yX3_comeTo, Cond.selects RX3 yX3_comeTo yX3_comeTo, Cond.code yX3_comeTo cX3_comeTo 5 none, Cond.methodLink RX3 72 yX3_isReach, Cond.static yX3_isReach, Cond.code yX3_isReach cX3_isReach 1 (some .boolean), Cond.methodLink RX3 59 yX3_isSafe, Cond.instanceMethod yX3_isSafe, Cond.selects RX3 yX3_isSafe yX3_isSafe, Cond.code yX3_isSafe cX3_isSafe 5 (some .boolean), Cond.fieldLink RX3 17 "CraneReachModel" "limit" "[I", Cond.methodLink RX3 49 yX3_strain, Cond.instanceMethod yX3_strain, Cond.selects RX3 yX3_strain yX3_strain, Cond.code yX3_strain cX3_strain 8 (some .int), Cond.methodLink RX3 33 Lib.Math.abs.name, Cond.static Lib.Math.abs.name, Cond.initialized "java/lang/Math", Cond.code Lib.Math.abs.name Lib.Math.abs.code 1 (some .int), Cond.fieldLink RX3 39 "CraneReachModel" "SLANT" "[I", Cond.methodLink RX3 42 Lib.Math.min.name]
def wsX3_bestOutrigger_r3 : List Cond := [Cond.static Lib.Math.min.name, Cond.code Lib.Math.min.name Lib.Math.min.code 2 (some .int), Cond.fieldLink RX3 46 "CraneReachModel" "plates" "I"]
def wsX3_bestOutrigger : List Cond := .code yX3_bestOutrigger cX3_bestOutrigger 6 (some .int) :: ((wsX3_bestOutrigger_r1 ++ (wsX3_bestOutrigger_r2 ++ wsX3_bestOutrigger_r3)) ++ wsX30)
def wsX3_meanLoad : List Cond := .code yX3_meanLoad cX3_meanLoad 1 (some .double) :: ([.fieldLink RX3 26 "CraneReachModel" "thrown" "I", .fieldLink RX3 78 "CraneReachModel" "lifts" "I", .fieldLink RX3 81 "CraneReachModel" "tons" "I"] ++ wsX30)
def wsX3_digest_r1 : List Cond := [Cond.fieldLink RX3 26 "CraneReachModel" "thrown" "I", Cond.arrayClass .int, Cond.fieldLink RX3 56 "CraneReachModel" "direction" "I", Cond.fieldLink RX3 9 "CraneReachModel" "reach" "I", Cond.fieldLink RX3 53 "CraneReachModel" "load" "I", Cond.fieldLink RX3 46 "CraneReachModel" "plates" "I", Cond.fieldLink RX3 78 "CraneReachModel" "lifts" "I", Cond.fieldLink RX3 81 "CraneReachModel" "tons" "I", Cond.fieldLink RX3 84 "CraneReachModel" "moves" "I", Cond.constantLong RX3 130 (1907), Cond.constantLong RX3 132 (31), Cond.fieldLink RX3 13 "CraneReachModel" "out" "[I", Cond.fieldLink RX3 17 "CraneReachModel" "limit" "[I", Cond.methodLink RX3 96 yX3_weakest, Cond.instanceMethod yX3_weakest, Cond.selects RX3 yX3_weakest yX3_weakest, Cond.initialized RX3, Cond.code yX3_weakest cX3_weakest 3 (some .int), Cond.methodLink RX3 93 yX3_strainNow, Cond.instanceMethod yX3_strainNow, Cond.selects RX3 yX3_strainNow yX3_strainNow, Cond.code yX3_strainNow cX3_strainNow 2 (some .int), Cond.methodLink RX3 49 yX3_strain, Cond.instanceMethod yX3_strain]
def wsX3_digest_r2 : List Cond := [Cond.selects RX3 yX3_strain yX3_strain, Cond.code yX3_strain cX3_strain 8 (some .int), Cond.methodLink RX3 33 Lib.Math.abs.name, Cond.static Lib.Math.abs.name, Cond.initialized "java/lang/Math", Cond.code Lib.Math.abs.name Lib.Math.abs.code 1 (some .int), Cond.fieldLink RX3 39 "CraneReachModel" "SLANT" "[I", Cond.methodLink RX3 42 Lib.Math.min.name, Cond.static Lib.Math.min.name, Cond.code Lib.Math.min.name Lib.Math.min.code 2 (some .int), Cond.methodLink RX3 106 yX3_greatest, Cond.instanceMethod yX3_greatest, Cond.selects RX3 yX3_greatest yX3_greatest, Cond.code yX3_greatest cX3_greatest 2 (some .int), Cond.methodLink RX3 59 yX3_isSafe, Cond.instanceMethod yX3_isSafe, Cond.selects RX3 yX3_isSafe yX3_isSafe, Cond.code yX3_isSafe cX3_isSafe 5 (some .boolean), Cond.methodLink RX3 109 yX3_safeAround, Cond.instanceMethod yX3_safeAround, Cond.selects RX3 yX3_safeAround yX3_safeAround, Cond.code yX3_safeAround cX3_safeAround 5 (some .int)]
def wsX3_digest : List Cond := .code yX3_digest cX3_digest 8 (some .long) :: ((wsX3_digest_r1 ++ wsX3_digest_r2) ++ wsX30)
def wsJ9_abs_0f7a4 : List Cond := .code yJ9_abs_0f7a4 cJ9_abs_0f7a4 1 (some .int) :: ([])
def wsJ9_min_7cf53 : List Cond := .code yJ9_min_7cf53 cJ9_min_7cf53 2 (some .int) :: ([])
def wsL_setPlates_r1 : List Cond := [Cond.classLink RL 13 "java/lang/IllegalArgumentException", Cond.classLink RL 15 "java/lang/IllegalStateException", Cond.methodLink RL 7 yX2_setPlates, Cond.instanceMethod yX2_setPlates, Cond.selects RX2 yX2_setPlates yX2_setPlates, Cond.initialized RX2, Cond.code yX2_setPlates cX2_setPlates 3 (some .int), Cond.classLink RX2 34 "java/lang/IllegalArgumentException", Cond.initialized "java/lang/IllegalArgumentException", Cond.fieldLink RX2 16 "CraneReach" "trial" "LCraneReach$Rig;", Cond.fieldLink RX2 12 "CraneReach" "rig" "LCraneReach$Rig;", Cond.fieldLink RX2 45 "CraneReach$Rig" "plates" "I", Cond.fieldLink RX2 48 "CraneReach" "load" "I", Cond.methodLink RX2 30 yX2_isWithin, Cond.static yX2_isWithin, Cond.code yX2_isWithin cX2_isWithin 3 (some .boolean), Cond.methodLink RX2 41 yX1_becomeLike, Cond.instanceMethod yX1_becomeLike, Cond.selects RX1 yX1_becomeLike yX1_becomeLike, Cond.initialized RX1, Cond.code yX1_becomeLike cX1_becomeLike 3 none, Cond.fieldLink RX1 18 "CraneReach$Rig" "plates" "I", Cond.methodLink RX1 22 yX1_drawn, Cond.instanceMethod yX1_drawn]
def wsL_setPlates_r2 : List Cond := [Cond.selects RX1 yX1_drawn yX1_drawn, Cond.code yX1_drawn cX1_drawn 2 (some .int), Cond.fieldLink RX1 9 "CraneReach$Rig" "outs" "[I", Cond.methodLink RX1 26 yX1_draw, Cond.instanceMethod yX1_draw, Cond.selects RX1 yX1_draw yX1_draw, Cond.code yX1_draw cX1_draw 3 none, Cond.methodLink RX1 30 yX1_allowed, Cond.instanceMethod yX1_allowed, Cond.selects RX1 yX1_allowed yX1_allowed, Cond.code yX1_allowed cX1_allowed 3 (some .int), Cond.fieldLink RX1 15 "CraneReach$Rig" "limits" "[I", Cond.methodLink RX1 33 yX1_allow, Cond.instanceMethod yX1_allow, Cond.selects RX1 yX1_allow yX1_allow, Cond.code yX1_allow cX1_allow 4 none, Cond.methodLink RX2 51 yX2_requireSafe, Cond.instanceMethod yX2_requireSafe, Cond.selects RX2 yX2_requireSafe yX2_requireSafe, Cond.code yX2_requireSafe cX2_requireSafe 3 none, Cond.classLink RX2 91 "java/lang/IllegalStateException", Cond.initialized "java/lang/IllegalStateException", Cond.fieldLink RX2 98 "CraneReach" "direction" "I", Cond.fieldLink RX2 26 "CraneReach" "reach" "I"]
def wsL_setPlates_r3 : List Cond := [Cond.methodLink RX2 105 yX1_isSafe, Cond.instanceMethod yX1_isSafe, Cond.selects RX1 yX1_isSafe yX1_isSafe, Cond.code yX1_isSafe cX1_isSafe 5 (some .boolean), Cond.methodLink RX1 36 yX1_strain, Cond.instanceMethod yX1_strain, Cond.selects RX1 yX1_strain yX1_strain, Cond.code yX1_strain cX1_strain 7 (some .int), Cond.methodLink RX1 40 yX1_slant, Cond.static yX1_slant, Cond.code yX1_slant cX1_slant 2 (some .int)]
def wsL_setPlates : List Cond := .codeWith yL_setPlates cL_setPlates 4 (some .int) [(0, 9, 12, 13), (0, 9, 15, 15)] :: ((wsL_setPlates_r1 ++ (wsL_setPlates_r2 ++ wsL_setPlates_r3)) ++ wsX20 ++ wsX10 ++ (vx_atS RX2 38 "java/lang/IllegalArgumentException" ["java/lang/RuntimeException", "java/lang/Exception"]).filter goodWord ++ (vx_atS RX2 95 "java/lang/IllegalStateException" ["java/lang/RuntimeException", "java/lang/Exception"]).filter goodWord)
def wsL_setOutrigger_r1 : List Cond := [Cond.classLink RL 21 "java/lang/IndexOutOfBoundsException", Cond.classLink RL 13 "java/lang/IllegalArgumentException", Cond.classLink RL 15 "java/lang/IllegalStateException", Cond.methodLink RL 17 yX2_setOutrigger, Cond.instanceMethod yX2_setOutrigger, Cond.selects RX2 yX2_setOutrigger yX2_setOutrigger, Cond.initialized RX2, Cond.code yX2_setOutrigger cX2_setOutrigger 4 (some .int), Cond.classLink RX2 34 "java/lang/IllegalArgumentException", Cond.initialized "java/lang/IllegalArgumentException", Cond.fieldLink RX2 16 "CraneReach" "trial" "LCraneReach$Rig;", Cond.fieldLink RX2 12 "CraneReach" "rig" "LCraneReach$Rig;", Cond.fieldLink RX2 48 "CraneReach" "load" "I", Cond.methodLink RX2 55 yX2_requireSide, Cond.static yX2_requireSide, Cond.code yX2_requireSide cX2_requireSide 1 none, Cond.classLink RX2 159 "java/lang/IndexOutOfBoundsException", Cond.initialized "java/lang/IndexOutOfBoundsException", Cond.methodLink RX2 30 yX2_isWithin, Cond.static yX2_isWithin, Cond.code yX2_isWithin cX2_isWithin 3 (some .boolean), Cond.methodLink RX2 61 yX2_requireNoLoad, Cond.instanceMethod yX2_requireNoLoad, Cond.selects RX2 yX2_requireNoLoad yX2_requireNoLoad]
def wsL_setOutrigger_r2 : List Cond := [Cond.code yX2_requireNoLoad cX2_requireNoLoad 1 none, Cond.classLink RX2 91 "java/lang/IllegalStateException", Cond.initialized "java/lang/IllegalStateException", Cond.methodLink RX2 41 yX1_becomeLike, Cond.instanceMethod yX1_becomeLike, Cond.selects RX1 yX1_becomeLike yX1_becomeLike, Cond.initialized RX1, Cond.code yX1_becomeLike cX1_becomeLike 3 none, Cond.fieldLink RX1 18 "CraneReach$Rig" "plates" "I", Cond.methodLink RX1 22 yX1_drawn, Cond.instanceMethod yX1_drawn, Cond.selects RX1 yX1_drawn yX1_drawn, Cond.code yX1_drawn cX1_drawn 2 (some .int), Cond.fieldLink RX1 9 "CraneReach$Rig" "outs" "[I", Cond.methodLink RX1 26 yX1_draw, Cond.instanceMethod yX1_draw, Cond.selects RX1 yX1_draw yX1_draw, Cond.code yX1_draw cX1_draw 3 none, Cond.methodLink RX1 30 yX1_allowed, Cond.instanceMethod yX1_allowed, Cond.selects RX1 yX1_allowed yX1_allowed, Cond.code yX1_allowed cX1_allowed 3 (some .int), Cond.fieldLink RX1 15 "CraneReach$Rig" "limits" "[I", Cond.methodLink RX1 33 yX1_allow]
def wsL_setOutrigger_r3 : List Cond := [Cond.instanceMethod yX1_allow, Cond.selects RX1 yX1_allow yX1_allow, Cond.code yX1_allow cX1_allow 4 none, Cond.methodLink RX2 64 yX1_draw, Cond.methodLink RX2 51 yX2_requireSafe, Cond.instanceMethod yX2_requireSafe, Cond.selects RX2 yX2_requireSafe yX2_requireSafe, Cond.code yX2_requireSafe cX2_requireSafe 3 none, Cond.fieldLink RX2 98 "CraneReach" "direction" "I", Cond.fieldLink RX2 26 "CraneReach" "reach" "I", Cond.methodLink RX2 105 yX1_isSafe, Cond.instanceMethod yX1_isSafe, Cond.selects RX1 yX1_isSafe yX1_isSafe, Cond.code yX1_isSafe cX1_isSafe 5 (some .boolean), Cond.methodLink RX1 36 yX1_strain, Cond.instanceMethod yX1_strain, Cond.selects RX1 yX1_strain yX1_strain, Cond.code yX1_strain cX1_strain 7 (some .int), Cond.methodLink RX1 40 yX1_slant, Cond.static yX1_slant, Cond.code yX1_slant cX1_slant 2 (some .int), Cond.methodLink RX2 68 yX1_drawn]
def wsL_setOutrigger : List Cond := .codeWith yL_setOutrigger cL_setOutrigger 5 (some .int) [(0, 10, 13, 21), (0, 10, 17, 13), (0, 10, 21, 15)] :: ((wsL_setOutrigger_r1 ++ (wsL_setOutrigger_r2 ++ wsL_setOutrigger_r3)) ++ wsX20 ++ wsX10 ++ (vx_atS RX2 38 "java/lang/IllegalArgumentException" ["java/lang/RuntimeException", "java/lang/Exception"]).filter goodWord ++ (vx_atS RX2 163 "java/lang/IndexOutOfBoundsException" ["java/lang/RuntimeException", "java/lang/Exception"]).filter goodWord ++ (vx_atS RX2 95 "java/lang/IllegalStateException" ["java/lang/RuntimeException", "java/lang/Exception"]).filter goodWord)
def wsL_setLimit_r1 : List Cond := [Cond.classLink RL 13 "java/lang/IllegalArgumentException", Cond.classLink RL 15 "java/lang/IllegalStateException", Cond.methodLink RL 23 yX2_setLimit, Cond.instanceMethod yX2_setLimit, Cond.selects RX2 yX2_setLimit yX2_setLimit, Cond.initialized RX2, Cond.code yX2_setLimit cX2_setLimit 4 (some .int), Cond.classLink RX2 34 "java/lang/IllegalArgumentException", Cond.initialized "java/lang/IllegalArgumentException", Cond.fieldLink RX2 16 "CraneReach" "trial" "LCraneReach$Rig;", Cond.fieldLink RX2 12 "CraneReach" "rig" "LCraneReach$Rig;", Cond.fieldLink RX2 48 "CraneReach" "load" "I", Cond.methodLink RX2 72 yX2_requireReach, Cond.static yX2_requireReach, Cond.code yX2_requireReach cX2_requireReach 1 none, Cond.methodLink RX2 113 yX2_isReach, Cond.static yX2_isReach, Cond.code yX2_isReach cX2_isReach 1 (some .boolean), Cond.methodLink RX2 30 yX2_isWithin, Cond.static yX2_isWithin, Cond.code yX2_isWithin cX2_isWithin 3 (some .boolean), Cond.methodLink RX2 41 yX1_becomeLike, Cond.instanceMethod yX1_becomeLike, Cond.selects RX1 yX1_becomeLike yX1_becomeLike]
def wsL_setLimit_r2 : List Cond := [Cond.initialized RX1, Cond.code yX1_becomeLike cX1_becomeLike 3 none, Cond.fieldLink RX1 18 "CraneReach$Rig" "plates" "I", Cond.methodLink RX1 22 yX1_drawn, Cond.instanceMethod yX1_drawn, Cond.selects RX1 yX1_drawn yX1_drawn, Cond.code yX1_drawn cX1_drawn 2 (some .int), Cond.fieldLink RX1 9 "CraneReach$Rig" "outs" "[I", Cond.methodLink RX1 26 yX1_draw, Cond.instanceMethod yX1_draw, Cond.selects RX1 yX1_draw yX1_draw, Cond.code yX1_draw cX1_draw 3 none, Cond.methodLink RX1 30 yX1_allowed, Cond.instanceMethod yX1_allowed, Cond.selects RX1 yX1_allowed yX1_allowed, Cond.code yX1_allowed cX1_allowed 3 (some .int), Cond.fieldLink RX1 15 "CraneReach$Rig" "limits" "[I", Cond.methodLink RX1 33 yX1_allow, Cond.instanceMethod yX1_allow, Cond.selects RX1 yX1_allow yX1_allow, Cond.code yX1_allow cX1_allow 4 none, Cond.methodLink RX2 77 yX1_allow, Cond.methodLink RX2 51 yX2_requireSafe, Cond.instanceMethod yX2_requireSafe]
def wsL_setLimit_r3 : List Cond := [Cond.selects RX2 yX2_requireSafe yX2_requireSafe, Cond.code yX2_requireSafe cX2_requireSafe 3 none, Cond.classLink RX2 91 "java/lang/IllegalStateException", Cond.initialized "java/lang/IllegalStateException", Cond.fieldLink RX2 98 "CraneReach" "direction" "I", Cond.fieldLink RX2 26 "CraneReach" "reach" "I", Cond.methodLink RX2 105 yX1_isSafe, Cond.instanceMethod yX1_isSafe, Cond.selects RX1 yX1_isSafe yX1_isSafe, Cond.code yX1_isSafe cX1_isSafe 5 (some .boolean), Cond.methodLink RX1 36 yX1_strain, Cond.instanceMethod yX1_strain, Cond.selects RX1 yX1_strain yX1_strain, Cond.code yX1_strain cX1_strain 7 (some .int), Cond.methodLink RX1 40 yX1_slant, Cond.static yX1_slant, Cond.code yX1_slant cX1_slant 2 (some .int), Cond.methodLink RX2 80 yX1_allowed]
def wsL_setLimit : List Cond := .codeWith yL_setLimit cL_setLimit 5 (some .int) [(0, 10, 13, 13), (0, 10, 17, 15)] :: ((wsL_setLimit_r1 ++ (wsL_setLimit_r2 ++ wsL_setLimit_r3)) ++ wsX20 ++ wsX10 ++ (vx_atS RX2 38 "java/lang/IllegalArgumentException" ["java/lang/RuntimeException", "java/lang/Exception"]).filter goodWord ++ (vx_atS RX2 95 "java/lang/IllegalStateException" ["java/lang/RuntimeException", "java/lang/Exception"]).filter goodWord)
def wsL_lift_r1 : List Cond := [Cond.classLink RL 13 "java/lang/IllegalArgumentException", Cond.classLink RL 15 "java/lang/IllegalStateException", Cond.methodLink RL 26 yX2_lift, Cond.instanceMethod yX2_lift, Cond.selects RX2 yX2_lift yX2_lift, Cond.initialized RX2, Cond.code yX2_lift cX2_lift 2 (some .int), Cond.classLink RX2 34 "java/lang/IllegalArgumentException", Cond.initialized "java/lang/IllegalArgumentException", Cond.fieldLink RX2 12 "CraneReach" "rig" "LCraneReach$Rig;", Cond.fieldLink RX2 48 "CraneReach" "load" "I", Cond.fieldLink RX2 85 "CraneReach" "lifts" "I", Cond.fieldLink RX2 88 "CraneReach" "tonsLifted" "I", Cond.methodLink RX2 30 yX2_isWithin, Cond.static yX2_isWithin, Cond.code yX2_isWithin cX2_isWithin 3 (some .boolean), Cond.methodLink RX2 61 yX2_requireNoLoad, Cond.instanceMethod yX2_requireNoLoad, Cond.selects RX2 yX2_requireNoLoad yX2_requireNoLoad, Cond.code yX2_requireNoLoad cX2_requireNoLoad 1 none, Cond.classLink RX2 91 "java/lang/IllegalStateException", Cond.initialized "java/lang/IllegalStateException", Cond.methodLink RX2 51 yX2_requireSafe, Cond.instanceMethod yX2_requireSafe]
def wsL_lift_r2 : List Cond := [Cond.selects RX2 yX2_requireSafe yX2_requireSafe, Cond.code yX2_requireSafe cX2_requireSafe 3 none, Cond.fieldLink RX2 98 "CraneReach" "direction" "I", Cond.fieldLink RX2 26 "CraneReach" "reach" "I", Cond.methodLink RX2 105 yX1_isSafe, Cond.instanceMethod yX1_isSafe, Cond.selects RX1 yX1_isSafe yX1_isSafe, Cond.initialized RX1, Cond.code yX1_isSafe cX1_isSafe 5 (some .boolean), Cond.methodLink RX1 30 yX1_allowed, Cond.instanceMethod yX1_allowed, Cond.selects RX1 yX1_allowed yX1_allowed, Cond.code yX1_allowed cX1_allowed 3 (some .int), Cond.fieldLink RX1 15 "CraneReach$Rig" "limits" "[I", Cond.methodLink RX1 36 yX1_strain, Cond.instanceMethod yX1_strain, Cond.selects RX1 yX1_strain yX1_strain, Cond.code yX1_strain cX1_strain 7 (some .int), Cond.fieldLink RX1 18 "CraneReach$Rig" "plates" "I", Cond.methodLink RX1 22 yX1_drawn, Cond.instanceMethod yX1_drawn, Cond.selects RX1 yX1_drawn yX1_drawn, Cond.code yX1_drawn cX1_drawn 2 (some .int), Cond.fieldLink RX1 9 "CraneReach$Rig" "outs" "[I"]
def wsL_lift_r3 : List Cond := [Cond.methodLink RX1 40 yX1_slant, Cond.static yX1_slant, Cond.code yX1_slant cX1_slant 2 (some .int)]
def wsL_lift : List Cond := .codeWith yL_lift cL_lift 4 (some .int) [(0, 9, 12, 13), (0, 9, 15, 15)] :: ((wsL_lift_r1 ++ (wsL_lift_r2 ++ wsL_lift_r3)) ++ wsX20 ++ wsX10 ++ (vx_atS RX2 38 "java/lang/IllegalArgumentException" ["java/lang/RuntimeException", "java/lang/Exception"]).filter goodWord ++ (vx_atS RX2 95 "java/lang/IllegalStateException" ["java/lang/RuntimeException", "java/lang/Exception"]).filter goodWord)
def wsL_setDown_r1 : List Cond := [Cond.classLink RL 15 "java/lang/IllegalStateException", Cond.methodLink RL 29 yX2_setDown, Cond.instanceMethod yX2_setDown, Cond.selects RX2 yX2_setDown yX2_setDown, Cond.initialized RX2, Cond.code yX2_setDown cX2_setDown 2 (some .int), Cond.classLink RX2 91 "java/lang/IllegalStateException", Cond.initialized "java/lang/IllegalStateException", Cond.fieldLink RX2 48 "CraneReach" "load" "I", Cond.fieldLink RX2 12 "CraneReach" "rig" "LCraneReach$Rig;", Cond.methodLink RX2 51 yX2_requireSafe, Cond.instanceMethod yX2_requireSafe, Cond.selects RX2 yX2_requireSafe yX2_requireSafe, Cond.code yX2_requireSafe cX2_requireSafe 3 none, Cond.fieldLink RX2 98 "CraneReach" "direction" "I", Cond.fieldLink RX2 26 "CraneReach" "reach" "I", Cond.methodLink RX2 105 yX1_isSafe, Cond.instanceMethod yX1_isSafe, Cond.selects RX1 yX1_isSafe yX1_isSafe, Cond.initialized RX1, Cond.code yX1_isSafe cX1_isSafe 5 (some .boolean), Cond.methodLink RX1 30 yX1_allowed, Cond.instanceMethod yX1_allowed, Cond.selects RX1 yX1_allowed yX1_allowed]
def wsL_setDown_r2 : List Cond := [Cond.code yX1_allowed cX1_allowed 3 (some .int), Cond.fieldLink RX1 15 "CraneReach$Rig" "limits" "[I", Cond.methodLink RX1 36 yX1_strain, Cond.instanceMethod yX1_strain, Cond.selects RX1 yX1_strain yX1_strain, Cond.code yX1_strain cX1_strain 7 (some .int), Cond.fieldLink RX1 18 "CraneReach$Rig" "plates" "I", Cond.methodLink RX1 22 yX1_drawn, Cond.instanceMethod yX1_drawn, Cond.selects RX1 yX1_drawn yX1_drawn, Cond.code yX1_drawn cX1_drawn 2 (some .int), Cond.fieldLink RX1 9 "CraneReach$Rig" "outs" "[I", Cond.methodLink RX1 40 yX1_slant, Cond.static yX1_slant, Cond.code yX1_slant cX1_slant 2 (some .int)]
def wsL_setDown : List Cond := .codeWith yL_setDown cL_setDown 3 (some .int) [(0, 8, 11, 15)] :: ((wsL_setDown_r1 ++ wsL_setDown_r2) ++ wsX20 ++ wsX10 ++ (vx_atS RX2 95 "java/lang/IllegalStateException" ["java/lang/RuntimeException", "java/lang/Exception"]).filter goodWord)
def wsL_swing_r1 : List Cond := [Cond.classLink RL 13 "java/lang/IllegalArgumentException", Cond.methodLink RL 33 yX2_swing, Cond.instanceMethod yX2_swing, Cond.selects RX2 yX2_swing yX2_swing, Cond.initialized RX2, Cond.code yX2_swing cX2_swing 5 (some .int), Cond.classLink RX2 34 "java/lang/IllegalArgumentException", Cond.initialized "java/lang/IllegalArgumentException", Cond.fieldLink RX2 12 "CraneReach" "rig" "LCraneReach$Rig;", Cond.fieldLink RX2 48 "CraneReach" "load" "I", Cond.fieldLink RX2 98 "CraneReach" "direction" "I", Cond.fieldLink RX2 26 "CraneReach" "reach" "I", Cond.methodLink RX2 30 yX2_isWithin, Cond.static yX2_isWithin, Cond.code yX2_isWithin cX2_isWithin 3 (some .boolean), Cond.methodLink RX2 101 yX2_turned, Cond.static yX2_turned, Cond.code yX2_turned cX2_turned 2 (some .int), Cond.methodLink RX2 105 yX1_isSafe, Cond.instanceMethod yX1_isSafe, Cond.selects RX1 yX1_isSafe yX1_isSafe, Cond.initialized RX1, Cond.code yX1_isSafe cX1_isSafe 5 (some .boolean), Cond.methodLink RX1 30 yX1_allowed]
def wsL_swing_r2 : List Cond := [Cond.instanceMethod yX1_allowed, Cond.selects RX1 yX1_allowed yX1_allowed, Cond.code yX1_allowed cX1_allowed 3 (some .int), Cond.fieldLink RX1 15 "CraneReach$Rig" "limits" "[I", Cond.methodLink RX1 36 yX1_strain, Cond.instanceMethod yX1_strain, Cond.selects RX1 yX1_strain yX1_strain, Cond.code yX1_strain cX1_strain 7 (some .int), Cond.fieldLink RX1 18 "CraneReach$Rig" "plates" "I", Cond.methodLink RX1 22 yX1_drawn, Cond.instanceMethod yX1_drawn, Cond.selects RX1 yX1_drawn yX1_drawn, Cond.code yX1_drawn cX1_drawn 2 (some .int), Cond.fieldLink RX1 9 "CraneReach$Rig" "outs" "[I", Cond.methodLink RX1 40 yX1_slant, Cond.static yX1_slant, Cond.code yX1_slant cX1_slant 2 (some .int), Cond.methodLink RX2 108 yX2_countMoves, Cond.instanceMethod yX2_countMoves, Cond.selects RX2 yX2_countMoves yX2_countMoves, Cond.code yX2_countMoves cX2_countMoves 2 none, Cond.fieldLink RX2 121 "CraneReach" "movesWithLoad" "I"]
def wsL_swing : List Cond := .codeWith yL_swing cL_swing 5 (some .int) [(0, 10, 13, 13)] :: ((wsL_swing_r1 ++ wsL_swing_r2) ++ wsX20 ++ wsX10 ++ (vx_atS RX2 38 "java/lang/IllegalArgumentException" ["java/lang/RuntimeException", "java/lang/Exception"]).filter goodWord)
def wsL_stretch_r1 : List Cond := [Cond.classLink RL 13 "java/lang/IllegalArgumentException", Cond.methodLink RL 37 yX2_stretch, Cond.instanceMethod yX2_stretch, Cond.selects RX2 yX2_stretch yX2_stretch, Cond.initialized RX2, Cond.code yX2_stretch cX2_stretch 5 (some .int), Cond.classLink RX2 34 "java/lang/IllegalArgumentException", Cond.initialized "java/lang/IllegalArgumentException", Cond.fieldLink RX2 26 "CraneReach" "reach" "I", Cond.fieldLink RX2 12 "CraneReach" "rig" "LCraneReach$Rig;", Cond.fieldLink RX2 48 "CraneReach" "load" "I", Cond.fieldLink RX2 98 "CraneReach" "direction" "I", Cond.methodLink RX2 30 yX2_isWithin, Cond.static yX2_isWithin, Cond.code yX2_isWithin cX2_isWithin 3 (some .boolean), Cond.methodLink RX2 113 yX2_isReach, Cond.static yX2_isReach, Cond.code yX2_isReach cX2_isReach 1 (some .boolean), Cond.methodLink RX2 105 yX1_isSafe, Cond.instanceMethod yX1_isSafe, Cond.selects RX1 yX1_isSafe yX1_isSafe, Cond.initialized RX1, Cond.code yX1_isSafe cX1_isSafe 5 (some .boolean), Cond.methodLink RX1 30 yX1_allowed]
def wsL_stretch_r2 : List Cond := [Cond.instanceMethod yX1_allowed, Cond.selects RX1 yX1_allowed yX1_allowed, Cond.code yX1_allowed cX1_allowed 3 (some .int), Cond.fieldLink RX1 15 "CraneReach$Rig" "limits" "[I", Cond.methodLink RX1 36 yX1_strain, Cond.instanceMethod yX1_strain, Cond.selects RX1 yX1_strain yX1_strain, Cond.code yX1_strain cX1_strain 7 (some .int), Cond.fieldLink RX1 18 "CraneReach$Rig" "plates" "I", Cond.methodLink RX1 22 yX1_drawn, Cond.instanceMethod yX1_drawn, Cond.selects RX1 yX1_drawn yX1_drawn, Cond.code yX1_drawn cX1_drawn 2 (some .int), Cond.fieldLink RX1 9 "CraneReach$Rig" "outs" "[I", Cond.methodLink RX1 40 yX1_slant, Cond.static yX1_slant, Cond.code yX1_slant cX1_slant 2 (some .int), Cond.methodLink RX2 108 yX2_countMoves, Cond.instanceMethod yX2_countMoves, Cond.selects RX2 yX2_countMoves yX2_countMoves, Cond.code yX2_countMoves cX2_countMoves 2 none, Cond.fieldLink RX2 121 "CraneReach" "movesWithLoad" "I"]
def wsL_stretch : List Cond := .codeWith yL_stretch cL_stretch 5 (some .int) [(0, 10, 13, 13)] :: ((wsL_stretch_r1 ++ wsL_stretch_r2) ++ wsX20 ++ wsX10 ++ (vx_atS RX2 38 "java/lang/IllegalArgumentException" ["java/lang/RuntimeException", "java/lang/Exception"]).filter goodWord)
def wsL_outrigger : List Cond := .codeWith yL_outrigger cL_outrigger 4 (some .int) [(0, 9, 12, 21)] :: ([.classLink RL 21 "java/lang/IndexOutOfBoundsException", .methodLink RL 40 yX2_outrigger, .instanceMethod yX2_outrigger, .selects RX2 yX2_outrigger yX2_outrigger, .initialized RX2, .code yX2_outrigger cX2_outrigger 2 (some .int), .fieldLink RX2 12 "CraneReach" "rig" "LCraneReach$Rig;", .methodLink RX2 55 yX2_requireSide, .static yX2_requireSide, .code yX2_requireSide cX2_requireSide 1 none, .classLink RX2 159 "java/lang/IndexOutOfBoundsException", .initialized "java/lang/IndexOutOfBoundsException", .methodLink RX2 30 yX2_isWithin, .static yX2_isWithin, .code yX2_isWithin cX2_isWithin 3 (some .boolean), .methodLink RX2 68 yX1_drawn, .instanceMethod yX1_drawn, .selects RX1 yX1_drawn yX1_drawn, .initialized RX1, .code yX1_drawn cX1_drawn 2 (some .int), .fieldLink RX1 9 "CraneReach$Rig" "outs" "[I"] ++ wsX20 ++ wsX10 ++ (vx_atS RX2 163 "java/lang/IndexOutOfBoundsException" ["java/lang/RuntimeException", "java/lang/Exception"]).filter goodWord)
def wsL_limitAt : List Cond := .codeWith yL_limitAt cL_limitAt 4 (some .int) [(0, 9, 12, 13)] :: ([.classLink RL 13 "java/lang/IllegalArgumentException", .methodLink RL 43 yX2_limitAt, .instanceMethod yX2_limitAt, .selects RX2 yX2_limitAt yX2_limitAt, .initialized RX2, .code yX2_limitAt cX2_limitAt 2 (some .int), .fieldLink RX2 12 "CraneReach" "rig" "LCraneReach$Rig;", .methodLink RX2 72 yX2_requireReach, .static yX2_requireReach, .code yX2_requireReach cX2_requireReach 1 none, .classLink RX2 34 "java/lang/IllegalArgumentException", .initialized "java/lang/IllegalArgumentException", .methodLink RX2 113 yX2_isReach, .static yX2_isReach, .code yX2_isReach cX2_isReach 1 (some .boolean), .methodLink RX2 30 yX2_isWithin, .static yX2_isWithin, .code yX2_isWithin cX2_isWithin 3 (some .boolean), .methodLink RX2 80 yX1_allowed, .instanceMethod yX1_allowed, .selects RX1 yX1_allowed yX1_allowed, .initialized RX1, .code yX1_allowed cX1_allowed 3 (some .int), .fieldLink RX1 15 "CraneReach$Rig" "limits" "[I"] ++ wsX20 ++ wsX10 ++ (vx_atS RX2 38 "java/lang/IllegalArgumentException" ["java/lang/RuntimeException", "java/lang/Exception"]).filter goodWord)
def wsL_strainOn_r1 : List Cond := [Cond.classLink RL 21 "java/lang/IndexOutOfBoundsException", Cond.methodLink RL 46 yX2_strainOn, Cond.instanceMethod yX2_strainOn, Cond.selects RX2 yX2_strainOn yX2_strainOn, Cond.initialized RX2, Cond.code yX2_strainOn cX2_strainOn 2 (some .int), Cond.fieldLink RX2 12 "CraneReach" "rig" "LCraneReach$Rig;", Cond.fieldLink RX2 48 "CraneReach" "load" "I", Cond.fieldLink RX2 98 "CraneReach" "direction" "I", Cond.fieldLink RX2 26 "CraneReach" "reach" "I", Cond.methodLink RX2 55 yX2_requireSide, Cond.static yX2_requireSide, Cond.code yX2_requireSide cX2_requireSide 1 none, Cond.classLink RX2 159 "java/lang/IndexOutOfBoundsException", Cond.initialized "java/lang/IndexOutOfBoundsException", Cond.methodLink RX2 30 yX2_isWithin, Cond.static yX2_isWithin, Cond.code yX2_isWithin cX2_isWithin 3 (some .boolean), Cond.methodLink RX2 117 yX1_strain, Cond.instanceMethod yX1_strain, Cond.selects RX1 yX1_strain yX1_strain, Cond.initialized RX1, Cond.code yX1_strain cX1_strain 7 (some .int), Cond.fieldLink RX1 18 "CraneReach$Rig" "plates" "I"]
def wsL_strainOn_r2 : List Cond := [Cond.methodLink RX1 22 yX1_drawn, Cond.instanceMethod yX1_drawn, Cond.selects RX1 yX1_drawn yX1_drawn, Cond.code yX1_drawn cX1_drawn 2 (some .int), Cond.fieldLink RX1 9 "CraneReach$Rig" "outs" "[I", Cond.methodLink RX1 40 yX1_slant, Cond.static yX1_slant, Cond.code yX1_slant cX1_slant 2 (some .int)]
def wsL_strainOn : List Cond := .codeWith yL_strainOn cL_strainOn 4 (some .int) [(0, 9, 12, 21)] :: ((wsL_strainOn_r1 ++ wsL_strainOn_r2) ++ wsX20 ++ wsX10 ++ (vx_atS RX2 163 "java/lang/IndexOutOfBoundsException" ["java/lang/RuntimeException", "java/lang/Exception"]).filter goodWord)
def wsL_isSafeWith_r1 : List Cond := [Cond.classLink RL 21 "java/lang/IndexOutOfBoundsException", Cond.classLink RL 13 "java/lang/IllegalArgumentException", Cond.methodLink RL 49 yX2_isSafeWith, Cond.instanceMethod yX2_isSafeWith, Cond.selects RX2 yX2_isSafeWith yX2_isSafeWith, Cond.initialized RX2, Cond.code yX2_isSafeWith cX2_isSafeWith 4 (some .boolean), Cond.fieldLink RX2 12 "CraneReach" "rig" "LCraneReach$Rig;", Cond.methodLink RX2 124 yX2_requireDirection, Cond.static yX2_requireDirection, Cond.code yX2_requireDirection cX2_requireDirection 1 none, Cond.classLink RX2 159 "java/lang/IndexOutOfBoundsException", Cond.initialized "java/lang/IndexOutOfBoundsException", Cond.methodLink RX2 30 yX2_isWithin, Cond.static yX2_isWithin, Cond.code yX2_isWithin cX2_isWithin 3 (some .boolean), Cond.methodLink RX2 127 yX2_requireLoad, Cond.static yX2_requireLoad, Cond.code yX2_requireLoad cX2_requireLoad 1 none, Cond.classLink RX2 34 "java/lang/IllegalArgumentException", Cond.initialized "java/lang/IllegalArgumentException", Cond.methodLink RX2 72 yX2_requireReach, Cond.static yX2_requireReach, Cond.code yX2_requireReach cX2_requireReach 1 none]
def wsL_isSafeWith_r2 : List Cond := [Cond.methodLink RX2 113 yX2_isReach, Cond.static yX2_isReach, Cond.code yX2_isReach cX2_isReach 1 (some .boolean), Cond.methodLink RX2 105 yX1_isSafe, Cond.instanceMethod yX1_isSafe, Cond.selects RX1 yX1_isSafe yX1_isSafe, Cond.initialized RX1, Cond.code yX1_isSafe cX1_isSafe 5 (some .boolean), Cond.methodLink RX1 30 yX1_allowed, Cond.instanceMethod yX1_allowed, Cond.selects RX1 yX1_allowed yX1_allowed, Cond.code yX1_allowed cX1_allowed 3 (some .int), Cond.fieldLink RX1 15 "CraneReach$Rig" "limits" "[I", Cond.methodLink RX1 36 yX1_strain, Cond.instanceMethod yX1_strain, Cond.selects RX1 yX1_strain yX1_strain, Cond.code yX1_strain cX1_strain 7 (some .int), Cond.fieldLink RX1 18 "CraneReach$Rig" "plates" "I", Cond.methodLink RX1 22 yX1_drawn, Cond.instanceMethod yX1_drawn, Cond.selects RX1 yX1_drawn yX1_drawn, Cond.code yX1_drawn cX1_drawn 2 (some .int), Cond.fieldLink RX1 9 "CraneReach$Rig" "outs" "[I", Cond.methodLink RX1 40 yX1_slant]
def wsL_isSafeWith_r3 : List Cond := [Cond.static yX1_slant, Cond.code yX1_slant cX1_slant 2 (some .int)]
def wsL_isSafeWith : List Cond := .codeWith yL_isSafeWith cL_isSafeWith 6 (some .int) [(0, 19, 22, 21), (0, 19, 26, 13)] :: ((wsL_isSafeWith_r1 ++ (wsL_isSafeWith_r2 ++ wsL_isSafeWith_r3)) ++ wsX20 ++ wsX10 ++ (vx_atS RX2 163 "java/lang/IndexOutOfBoundsException" ["java/lang/RuntimeException", "java/lang/Exception"]).filter goodWord ++ (vx_atS RX2 38 "java/lang/IllegalArgumentException" ["java/lang/RuntimeException", "java/lang/Exception"]).filter goodWord)
def wsL_farthestReach_r1 : List Cond := [Cond.classLink RL 21 "java/lang/IndexOutOfBoundsException", Cond.classLink RL 13 "java/lang/IllegalArgumentException", Cond.methodLink RL 53 yX2_farthestReach, Cond.instanceMethod yX2_farthestReach, Cond.selects RX2 yX2_farthestReach yX2_farthestReach, Cond.initialized RX2, Cond.code yX2_farthestReach cX2_farthestReach 5 (some .int), Cond.fieldLink RX2 12 "CraneReach" "rig" "LCraneReach$Rig;", Cond.methodLink RX2 124 yX2_requireDirection, Cond.static yX2_requireDirection, Cond.code yX2_requireDirection cX2_requireDirection 1 none, Cond.classLink RX2 159 "java/lang/IndexOutOfBoundsException", Cond.initialized "java/lang/IndexOutOfBoundsException", Cond.methodLink RX2 30 yX2_isWithin, Cond.static yX2_isWithin, Cond.code yX2_isWithin cX2_isWithin 3 (some .boolean), Cond.methodLink RX2 127 yX2_requireLoad, Cond.static yX2_requireLoad, Cond.code yX2_requireLoad cX2_requireLoad 1 none, Cond.classLink RX2 34 "java/lang/IllegalArgumentException", Cond.initialized "java/lang/IllegalArgumentException", Cond.methodLink RX2 105 yX1_isSafe, Cond.instanceMethod yX1_isSafe, Cond.selects RX1 yX1_isSafe yX1_isSafe]
def wsL_farthestReach_r2 : List Cond := [Cond.initialized RX1, Cond.code yX1_isSafe cX1_isSafe 5 (some .boolean), Cond.methodLink RX1 30 yX1_allowed, Cond.instanceMethod yX1_allowed, Cond.selects RX1 yX1_allowed yX1_allowed, Cond.code yX1_allowed cX1_allowed 3 (some .int), Cond.fieldLink RX1 15 "CraneReach$Rig" "limits" "[I", Cond.methodLink RX1 36 yX1_strain, Cond.instanceMethod yX1_strain, Cond.selects RX1 yX1_strain yX1_strain, Cond.code yX1_strain cX1_strain 7 (some .int), Cond.fieldLink RX1 18 "CraneReach$Rig" "plates" "I", Cond.methodLink RX1 22 yX1_drawn, Cond.instanceMethod yX1_drawn, Cond.selects RX1 yX1_drawn yX1_drawn, Cond.code yX1_drawn cX1_drawn 2 (some .int), Cond.fieldLink RX1 9 "CraneReach$Rig" "outs" "[I", Cond.methodLink RX1 40 yX1_slant, Cond.static yX1_slant, Cond.code yX1_slant cX1_slant 2 (some .int)]
def wsL_farthestReach : List Cond := .codeWith yL_farthestReach cL_farthestReach 5 (some .int) [(0, 10, 13, 21), (0, 10, 17, 13)] :: ((wsL_farthestReach_r1 ++ wsL_farthestReach_r2) ++ wsX20 ++ wsX10 ++ (vx_atS RX2 163 "java/lang/IndexOutOfBoundsException" ["java/lang/RuntimeException", "java/lang/Exception"]).filter goodWord ++ (vx_atS RX2 38 "java/lang/IllegalArgumentException" ["java/lang/RuntimeException", "java/lang/Exception"]).filter goodWord)
def wsL_safeDirections_r1 : List Cond := [Cond.classLink RL 13 "java/lang/IllegalArgumentException", Cond.methodLink RL 56 yX2_safeDirections, Cond.instanceMethod yX2_safeDirections, Cond.selects RX2 yX2_safeDirections yX2_safeDirections, Cond.initialized RX2, Cond.code yX2_safeDirections cX2_safeDirections 5 (some .int), Cond.fieldLink RX2 12 "CraneReach" "rig" "LCraneReach$Rig;", Cond.methodLink RX2 127 yX2_requireLoad, Cond.static yX2_requireLoad, Cond.code yX2_requireLoad cX2_requireLoad 1 none, Cond.classLink RX2 34 "java/lang/IllegalArgumentException", Cond.initialized "java/lang/IllegalArgumentException", Cond.methodLink RX2 30 yX2_isWithin, Cond.static yX2_isWithin, Cond.code yX2_isWithin cX2_isWithin 3 (some .boolean), Cond.methodLink RX2 72 yX2_requireReach, Cond.static yX2_requireReach, Cond.code yX2_requireReach cX2_requireReach 1 none, Cond.methodLink RX2 113 yX2_isReach, Cond.static yX2_isReach, Cond.code yX2_isReach cX2_isReach 1 (some .boolean), Cond.methodLink RX2 105 yX1_isSafe, Cond.instanceMethod yX1_isSafe, Cond.selects RX1 yX1_isSafe yX1_isSafe]
def wsL_safeDirections_r2 : List Cond := [Cond.initialized RX1, Cond.code yX1_isSafe cX1_isSafe 5 (some .boolean), Cond.methodLink RX1 30 yX1_allowed, Cond.instanceMethod yX1_allowed, Cond.selects RX1 yX1_allowed yX1_allowed, Cond.code yX1_allowed cX1_allowed 3 (some .int), Cond.fieldLink RX1 15 "CraneReach$Rig" "limits" "[I", Cond.methodLink RX1 36 yX1_strain, Cond.instanceMethod yX1_strain, Cond.selects RX1 yX1_strain yX1_strain, Cond.code yX1_strain cX1_strain 7 (some .int), Cond.fieldLink RX1 18 "CraneReach$Rig" "plates" "I", Cond.methodLink RX1 22 yX1_drawn, Cond.instanceMethod yX1_drawn, Cond.selects RX1 yX1_drawn yX1_drawn, Cond.code yX1_drawn cX1_drawn 2 (some .int), Cond.fieldLink RX1 9 "CraneReach$Rig" "outs" "[I", Cond.methodLink RX1 40 yX1_slant, Cond.static yX1_slant, Cond.code yX1_slant cX1_slant 2 (some .int)]
def wsL_safeDirections : List Cond := .codeWith yL_safeDirections cL_safeDirections 5 (some .int) [(0, 10, 13, 13)] :: ((wsL_safeDirections_r1 ++ wsL_safeDirections_r2) ++ wsX20 ++ wsX10 ++ (vx_atS RX2 38 "java/lang/IllegalArgumentException" ["java/lang/RuntimeException", "java/lang/Exception"]).filter goodWord)
def wsL_platesNeeded_r1 : List Cond := [Cond.classLink RL 21 "java/lang/IndexOutOfBoundsException", Cond.classLink RL 13 "java/lang/IllegalArgumentException", Cond.methodLink RL 59 yX2_platesNeeded, Cond.instanceMethod yX2_platesNeeded, Cond.selects RX2 yX2_platesNeeded yX2_platesNeeded, Cond.initialized RX2, Cond.code yX2_platesNeeded cX2_platesNeeded 5 (some .int), Cond.fieldLink RX2 16 "CraneReach" "trial" "LCraneReach$Rig;", Cond.fieldLink RX2 12 "CraneReach" "rig" "LCraneReach$Rig;", Cond.fieldLink RX2 45 "CraneReach$Rig" "plates" "I", Cond.methodLink RX2 124 yX2_requireDirection, Cond.static yX2_requireDirection, Cond.code yX2_requireDirection cX2_requireDirection 1 none, Cond.classLink RX2 159 "java/lang/IndexOutOfBoundsException", Cond.initialized "java/lang/IndexOutOfBoundsException", Cond.methodLink RX2 30 yX2_isWithin, Cond.static yX2_isWithin, Cond.code yX2_isWithin cX2_isWithin 3 (some .boolean), Cond.methodLink RX2 127 yX2_requireLoad, Cond.static yX2_requireLoad, Cond.code yX2_requireLoad cX2_requireLoad 1 none, Cond.classLink RX2 34 "java/lang/IllegalArgumentException", Cond.initialized "java/lang/IllegalArgumentException", Cond.methodLink RX2 72 yX2_requireReach]
def wsL_platesNeeded_r2 : List Cond := [Cond.static yX2_requireReach, Cond.code yX2_requireReach cX2_requireReach 1 none, Cond.methodLink RX2 113 yX2_isReach, Cond.static yX2_isReach, Cond.code yX2_isReach cX2_isReach 1 (some .boolean), Cond.methodLink RX2 41 yX1_becomeLike, Cond.instanceMethod yX1_becomeLike, Cond.selects RX1 yX1_becomeLike yX1_becomeLike, Cond.initialized RX1, Cond.code yX1_becomeLike cX1_becomeLike 3 none, Cond.fieldLink RX1 18 "CraneReach$Rig" "plates" "I", Cond.methodLink RX1 22 yX1_drawn, Cond.instanceMethod yX1_drawn, Cond.selects RX1 yX1_drawn yX1_drawn, Cond.code yX1_drawn cX1_drawn 2 (some .int), Cond.fieldLink RX1 9 "CraneReach$Rig" "outs" "[I", Cond.methodLink RX1 26 yX1_draw, Cond.instanceMethod yX1_draw, Cond.selects RX1 yX1_draw yX1_draw, Cond.code yX1_draw cX1_draw 3 none, Cond.methodLink RX1 30 yX1_allowed, Cond.instanceMethod yX1_allowed, Cond.selects RX1 yX1_allowed yX1_allowed, Cond.code yX1_allowed cX1_allowed 3 (some .int)]
def wsL_platesNeeded_r3 : List Cond := [Cond.fieldLink RX1 15 "CraneReach$Rig" "limits" "[I", Cond.methodLink RX1 33 yX1_allow, Cond.instanceMethod yX1_allow, Cond.selects RX1 yX1_allow yX1_allow, Cond.code yX1_allow cX1_allow 4 none, Cond.methodLink RX2 105 yX1_isSafe, Cond.instanceMethod yX1_isSafe, Cond.selects RX1 yX1_isSafe yX1_isSafe, Cond.code yX1_isSafe cX1_isSafe 5 (some .boolean), Cond.methodLink RX1 36 yX1_strain, Cond.instanceMethod yX1_strain, Cond.selects RX1 yX1_strain yX1_strain, Cond.code yX1_strain cX1_strain 7 (some .int), Cond.methodLink RX1 40 yX1_slant, Cond.static yX1_slant, Cond.code yX1_slant cX1_slant 2 (some .int)]
def wsL_platesNeeded : List Cond := .codeWith yL_platesNeeded cL_platesNeeded 6 (some .int) [(0, 12, 15, 21), (0, 12, 19, 13)] :: ((wsL_platesNeeded_r1 ++ (wsL_platesNeeded_r2 ++ wsL_platesNeeded_r3)) ++ wsX20 ++ wsX10 ++ (vx_atS RX2 163 "java/lang/IndexOutOfBoundsException" ["java/lang/RuntimeException", "java/lang/Exception"]).filter goodWord ++ (vx_atS RX2 38 "java/lang/IllegalArgumentException" ["java/lang/RuntimeException", "java/lang/Exception"]).filter goodWord)
def wsL_fewestMoves_r1 : List Cond := [Cond.classLink RL 21 "java/lang/IndexOutOfBoundsException", Cond.classLink RL 13 "java/lang/IllegalArgumentException", Cond.methodLink RL 63 yX2_fewestMoves, Cond.instanceMethod yX2_fewestMoves, Cond.selects RX2 yX2_fewestMoves yX2_fewestMoves, Cond.initialized RX2, Cond.code yX2_fewestMoves cX2_fewestMoves 4 (some .int), Cond.fieldLink RX2 22 "CraneReach" "plan" "LCraneReach$Plan;", Cond.fieldLink RX2 12 "CraneReach" "rig" "LCraneReach$Rig;", Cond.fieldLink RX2 98 "CraneReach" "direction" "I", Cond.fieldLink RX2 26 "CraneReach" "reach" "I", Cond.methodLink RX2 124 yX2_requireDirection, Cond.static yX2_requireDirection, Cond.code yX2_requireDirection cX2_requireDirection 1 none, Cond.classLink RX2 159 "java/lang/IndexOutOfBoundsException", Cond.initialized "java/lang/IndexOutOfBoundsException", Cond.methodLink RX2 30 yX2_isWithin, Cond.static yX2_isWithin, Cond.code yX2_isWithin cX2_isWithin 3 (some .boolean), Cond.methodLink RX2 127 yX2_requireLoad, Cond.static yX2_requireLoad, Cond.code yX2_requireLoad cX2_requireLoad 1 none, Cond.classLink RX2 34 "java/lang/IllegalArgumentException", Cond.initialized "java/lang/IllegalArgumentException"]
def wsL_fewestMoves_r2 : List Cond := [Cond.methodLink RX2 72 yX2_requireReach, Cond.static yX2_requireReach, Cond.code yX2_requireReach cX2_requireReach 1 none, Cond.methodLink RX2 113 yX2_isReach, Cond.static yX2_isReach, Cond.code yX2_isReach cX2_isReach 1 (some .boolean), Cond.methodLink RX2 130 yX0_spread, Cond.instanceMethod yX0_spread, Cond.selects RX0 yX0_spread yX0_spread, Cond.initialized RX0, Cond.code yX0_spread cX0_spread 6 (some .int), Cond.fieldLink RX0 18 "CraneReach$Plan" "places" "I", Cond.fieldLink RX0 9 "CraneReach$Plan" "moves" "[I", Cond.fieldLink RX0 15 "CraneReach$Plan" "found" "[I", Cond.methodLink RX0 22 yX0_visit, Cond.instanceMethod yX0_visit, Cond.selects RX0 yX0_visit yX0_visit, Cond.code yX0_visit cX0_visit 7 none, Cond.methodLink RX0 30 yX0_placeOf, Cond.static yX0_placeOf, Cond.code yX0_placeOf cX0_placeOf 2 (some .int), Cond.methodLink RX0 37 yX1_isSafe, Cond.instanceMethod yX1_isSafe, Cond.selects RX1 yX1_isSafe yX1_isSafe]
def wsL_fewestMoves_r3 : List Cond := [Cond.initialized RX1, Cond.code yX1_isSafe cX1_isSafe 5 (some .boolean), Cond.methodLink RX1 30 yX1_allowed, Cond.instanceMethod yX1_allowed, Cond.selects RX1 yX1_allowed yX1_allowed, Cond.code yX1_allowed cX1_allowed 3 (some .int), Cond.fieldLink RX1 15 "CraneReach$Rig" "limits" "[I", Cond.methodLink RX1 36 yX1_strain, Cond.instanceMethod yX1_strain, Cond.selects RX1 yX1_strain yX1_strain, Cond.code yX1_strain cX1_strain 7 (some .int), Cond.fieldLink RX1 18 "CraneReach$Rig" "plates" "I", Cond.methodLink RX1 22 yX1_drawn, Cond.instanceMethod yX1_drawn, Cond.selects RX1 yX1_drawn yX1_drawn, Cond.code yX1_drawn cX1_drawn 2 (some .int), Cond.fieldLink RX1 9 "CraneReach$Rig" "outs" "[I", Cond.methodLink RX1 40 yX1_slant, Cond.static yX1_slant, Cond.code yX1_slant cX1_slant 2 (some .int), Cond.methodLink RX0 26 yX0_visitBeside, Cond.instanceMethod yX0_visitBeside, Cond.selects RX0 yX0_visitBeside yX0_visitBeside, Cond.code yX0_visitBeside cX0_visitBeside 7 none]
def wsL_fewestMoves_r4 : List Cond := [Cond.static yX2_turned, Cond.code yX2_turned cX2_turned 2 (some .int), Cond.methodLink RX2 134 yX0_movesTo, Cond.instanceMethod yX0_movesTo, Cond.selects RX0 yX0_movesTo yX0_movesTo, Cond.code yX0_movesTo cX0_movesTo 4 (some .int)]
def wsL_fewestMoves : List Cond := .codeWith yL_fewestMoves cL_fewestMoves 6 (some .int) [(0, 12, 15, 21), (0, 12, 19, 13)] :: ((wsL_fewestMoves_r1 ++ (wsL_fewestMoves_r2 ++ (wsL_fewestMoves_r3 ++ wsL_fewestMoves_r4))) ++ wsX20 ++ wsX00 ++ wsX10 ++ (vx_atS RX2 163 "java/lang/IndexOutOfBoundsException" ["java/lang/RuntimeException", "java/lang/Exception"]).filter goodWord ++ (vx_atS RX2 38 "java/lang/IllegalArgumentException" ["java/lang/RuntimeException", "java/lang/Exception"]).filter goodWord)
def wsL_placesWithin_r1 : List Cond := [Cond.classLink RL 13 "java/lang/IllegalArgumentException", Cond.methodLink RL 66 yX2_placesWithin, Cond.instanceMethod yX2_placesWithin, Cond.selects RX2 yX2_placesWithin yX2_placesWithin, Cond.initialized RX2, Cond.code yX2_placesWithin cX2_placesWithin 2 (some .int), Cond.fieldLink RX2 22 "CraneReach" "plan" "LCraneReach$Plan;", Cond.fieldLink RX2 12 "CraneReach" "rig" "LCraneReach$Rig;", Cond.fieldLink RX2 98 "CraneReach" "direction" "I", Cond.fieldLink RX2 26 "CraneReach" "reach" "I", Cond.methodLink RX2 127 yX2_requireLoad, Cond.static yX2_requireLoad, Cond.code yX2_requireLoad cX2_requireLoad 1 none, Cond.classLink RX2 34 "java/lang/IllegalArgumentException", Cond.initialized "java/lang/IllegalArgumentException", Cond.methodLink RX2 30 yX2_isWithin, Cond.static yX2_isWithin, Cond.code yX2_isWithin cX2_isWithin 3 (some .boolean), Cond.methodLink RX2 130 yX0_spread, Cond.instanceMethod yX0_spread, Cond.selects RX0 yX0_spread yX0_spread, Cond.initialized RX0, Cond.code yX0_spread cX0_spread 6 (some .int), Cond.fieldLink RX0 18 "CraneReach$Plan" "places" "I"]
def wsL_placesWithin_r2 : List Cond := [Cond.fieldLink RX0 9 "CraneReach$Plan" "moves" "[I", Cond.fieldLink RX0 15 "CraneReach$Plan" "found" "[I", Cond.methodLink RX0 22 yX0_visit, Cond.instanceMethod yX0_visit, Cond.selects RX0 yX0_visit yX0_visit, Cond.code yX0_visit cX0_visit 7 none, Cond.methodLink RX0 30 yX0_placeOf, Cond.static yX0_placeOf, Cond.code yX0_placeOf cX0_placeOf 2 (some .int), Cond.static yX2_isReach, Cond.code yX2_isReach cX2_isReach 1 (some .boolean), Cond.methodLink RX0 37 yX1_isSafe, Cond.instanceMethod yX1_isSafe, Cond.selects RX1 yX1_isSafe yX1_isSafe, Cond.initialized RX1, Cond.code yX1_isSafe cX1_isSafe 5 (some .boolean), Cond.methodLink RX1 30 yX1_allowed, Cond.instanceMethod yX1_allowed, Cond.selects RX1 yX1_allowed yX1_allowed, Cond.code yX1_allowed cX1_allowed 3 (some .int), Cond.fieldLink RX1 15 "CraneReach$Rig" "limits" "[I", Cond.methodLink RX1 36 yX1_strain, Cond.instanceMethod yX1_strain, Cond.selects RX1 yX1_strain yX1_strain]
def wsL_placesWithin_r3 : List Cond := [Cond.code yX1_strain cX1_strain 7 (some .int), Cond.fieldLink RX1 18 "CraneReach$Rig" "plates" "I", Cond.methodLink RX1 22 yX1_drawn, Cond.instanceMethod yX1_drawn, Cond.selects RX1 yX1_drawn yX1_drawn, Cond.code yX1_drawn cX1_drawn 2 (some .int), Cond.fieldLink RX1 9 "CraneReach$Rig" "outs" "[I", Cond.methodLink RX1 40 yX1_slant, Cond.static yX1_slant, Cond.code yX1_slant cX1_slant 2 (some .int), Cond.methodLink RX0 26 yX0_visitBeside, Cond.instanceMethod yX0_visitBeside, Cond.selects RX0 yX0_visitBeside yX0_visitBeside, Cond.code yX0_visitBeside cX0_visitBeside 7 none, Cond.static yX2_turned, Cond.code yX2_turned cX2_turned 2 (some .int)]
def wsL_placesWithin : List Cond := .codeWith yL_placesWithin cL_placesWithin 4 (some .int) [(0, 9, 12, 13)] :: ((wsL_placesWithin_r1 ++ (wsL_placesWithin_r2 ++ wsL_placesWithin_r3)) ++ wsX20 ++ wsX00 ++ wsX10 ++ (vx_atS RX2 38 "java/lang/IllegalArgumentException" ["java/lang/RuntimeException", "java/lang/Exception"]).filter goodWord)
def wsL_bestOutrigger_r1 : List Cond := [Cond.classLink RL 13 "java/lang/IllegalArgumentException", Cond.methodLink RL 69 yX2_bestOutrigger, Cond.instanceMethod yX2_bestOutrigger, Cond.selects RX2 yX2_bestOutrigger yX2_bestOutrigger, Cond.initialized RX2, Cond.code yX2_bestOutrigger cX2_bestOutrigger 7 (some .int), Cond.fieldLink RX2 12 "CraneReach" "rig" "LCraneReach$Rig;", Cond.fieldLink RX2 16 "CraneReach" "trial" "LCraneReach$Rig;", Cond.fieldLink RX2 22 "CraneReach" "plan" "LCraneReach$Plan;", Cond.fieldLink RX2 98 "CraneReach" "direction" "I", Cond.fieldLink RX2 26 "CraneReach" "reach" "I", Cond.methodLink RX2 127 yX2_requireLoad, Cond.static yX2_requireLoad, Cond.code yX2_requireLoad cX2_requireLoad 1 none, Cond.classLink RX2 34 "java/lang/IllegalArgumentException", Cond.initialized "java/lang/IllegalArgumentException", Cond.methodLink RX2 30 yX2_isWithin, Cond.static yX2_isWithin, Cond.code yX2_isWithin cX2_isWithin 3 (some .boolean), Cond.methodLink RX2 68 yX1_drawn, Cond.instanceMethod yX1_drawn, Cond.selects RX1 yX1_drawn yX1_drawn, Cond.initialized RX1, Cond.code yX1_drawn cX1_drawn 2 (some .int)]
def wsL_bestOutrigger_r2 : List Cond := [Cond.fieldLink RX1 9 "CraneReach$Rig" "outs" "[I", Cond.methodLink RX2 41 yX1_becomeLike, Cond.instanceMethod yX1_becomeLike, Cond.selects RX1 yX1_becomeLike yX1_becomeLike, Cond.code yX1_becomeLike cX1_becomeLike 3 none, Cond.fieldLink RX1 18 "CraneReach$Rig" "plates" "I", Cond.methodLink RX1 22 yX1_drawn, Cond.methodLink RX1 26 yX1_draw, Cond.instanceMethod yX1_draw, Cond.selects RX1 yX1_draw yX1_draw, Cond.code yX1_draw cX1_draw 3 none, Cond.methodLink RX1 30 yX1_allowed, Cond.instanceMethod yX1_allowed, Cond.selects RX1 yX1_allowed yX1_allowed, Cond.code yX1_allowed cX1_allowed 3 (some .int), Cond.fieldLink RX1 15 "CraneReach$Rig" "limits" "[I", Cond.methodLink RX1 33 yX1_allow, Cond.instanceMethod yX1_allow, Cond.selects RX1 yX1_allow yX1_allow, Cond.code yX1_allow cX1_allow 4 none, Cond.methodLink RX2 64 yX1_draw, Cond.methodLink RX2 130 yX0_spread, Cond.instanceMethod yX0_spread, Cond.selects RX0 yX0_spread yX0_spread]
def wsL_bestOutrigger_r3 : List Cond := [Cond.initialized RX0, Cond.code yX0_spread cX0_spread 6 (some .int), Cond.fieldLink RX0 18 "CraneReach$Plan" "places" "I", Cond.fieldLink RX0 9 "CraneReach$Plan" "moves" "[I", Cond.fieldLink RX0 15 "CraneReach$Plan" "found" "[I", Cond.methodLink RX0 22 yX0_visit, Cond.instanceMethod yX0_visit, Cond.selects RX0 yX0_visit yX0_visit, Cond.code yX0_visit cX0_visit 7 none, Cond.methodLink RX0 30 yX0_placeOf, Cond.static yX0_placeOf, Cond.code yX0_placeOf cX0_placeOf 2 (some .int), Cond.static yX2_isReach, Cond.code yX2_isReach cX2_isReach 1 (some .boolean), Cond.methodLink RX0 37 yX1_isSafe, Cond.instanceMethod yX1_isSafe, Cond.selects RX1 yX1_isSafe yX1_isSafe, Cond.code yX1_isSafe cX1_isSafe 5 (some .boolean), Cond.methodLink RX1 36 yX1_strain, Cond.instanceMethod yX1_strain, Cond.selects RX1 yX1_strain yX1_strain, Cond.code yX1_strain cX1_strain 7 (some .int), Cond.methodLink RX1 40 yX1_slant, Cond.static yX1_slant]
def wsL_bestOutrigger_r4 : List Cond := [Cond.code yX1_slant cX1_slant 2 (some .int), Cond.methodLink RX0 26 yX0_visitBeside, Cond.instanceMethod yX0_visitBeside, Cond.selects RX0 yX0_visitBeside yX0_visitBeside, Cond.code yX0_visitBeside cX0_visitBeside 7 none, Cond.static yX2_turned, Cond.code yX2_turned cX2_turned 2 (some .int)]
def wsL_bestOutrigger : List Cond := .codeWith yL_bestOutrigger cL_bestOutrigger 4 (some .int) [(0, 9, 12, 13)] :: ((wsL_bestOutrigger_r1 ++ (wsL_bestOutrigger_r2 ++ (wsL_bestOutrigger_r3 ++ wsL_bestOutrigger_r4))) ++ wsX20 ++ wsX10 ++ wsX00 ++ (vx_atS RX2 38 "java/lang/IllegalArgumentException" ["java/lang/RuntimeException", "java/lang/Exception"]).filter goodWord)
def wsL_law0_r1 : List Cond := [Cond.classLink RL 8 RX2, Cond.instantiable RX2 9, Cond.initialized RX2, Cond.classLink RL 73 RX3, Cond.instantiable RX3 13, Cond.initialized RX3, Cond.arrayClass .long, Cond.methodLink RL 72 yX2_init, Cond.instanceMethod yX2_init, Cond.code yX2_init cX2_init 1 none, Cond.methodLink RX2 3 objectInit, Cond.instanceMethod objectInit, Cond.code objectInit ⟨#[0xb1]⟩ 1 none, Cond.classLink RX2 9 RX1, Cond.instantiable RX1 3, Cond.initialized RX1, Cond.fieldLink RX2 12 "CraneReach" "rig" "LCraneReach$Rig;", Cond.fieldLink RX2 16 "CraneReach" "trial" "LCraneReach$Rig;", Cond.classLink RX2 19 RX0, Cond.instantiable RX0 3, Cond.initialized RX0, Cond.fieldLink RX2 22 "CraneReach" "plan" "LCraneReach$Plan;", Cond.fieldLink RX2 26 "CraneReach" "reach" "I", Cond.methodLink RX2 11 yX1_init]
def wsL_law0_r2 : List Cond := [Cond.instanceMethod yX1_init, Cond.code yX1_init cX1_init 2 none, Cond.methodLink RX1 3 objectInit, Cond.arrayClass .int, Cond.fieldLink RX1 9 "CraneReach$Rig" "outs" "[I", Cond.fieldLink RX1 15 "CraneReach$Rig" "limits" "[I", Cond.instanceMethod yX0_init, Cond.code yX0_init cX0_init 1 none, Cond.methodLink RX0 3 objectInit, Cond.fieldLink RX0 9 "CraneReach$Plan" "moves" "[I", Cond.fieldLink RX0 15 "CraneReach$Plan" "found" "[I", Cond.methodLink RL 75 yX3_init, Cond.instanceMethod yX3_init, Cond.code yX3_init cX3_init 2 none, Cond.methodLink RX3 3 objectInit, Cond.fieldLink RX3 9 "CraneReachModel" "reach" "I", Cond.fieldLink RX3 13 "CraneReachModel" "out" "[I", Cond.fieldLink RX3 17 "CraneReachModel" "limit" "[I", Cond.fieldLink RX3 20 "CraneReachModel" "away" "[I", Cond.fieldLink RX3 23 "CraneReachModel" "queue" "[I", Cond.methodLink RL 76 yL_setPlates, Cond.static yL_setPlates, Cond.initialized RL, Cond.codeWith yL_setPlates cL_setPlates 4 (some .int) [(0, 9, 12, 13), (0, 9, 15, 15)]]
def wsL_law0_r3 : List Cond := [Cond.classLink RL 13 "java/lang/IllegalArgumentException", Cond.classLink RL 15 "java/lang/IllegalStateException", Cond.methodLink RL 7 yX2_setPlates, Cond.instanceMethod yX2_setPlates, Cond.selects RX2 yX2_setPlates yX2_setPlates, Cond.code yX2_setPlates cX2_setPlates 3 (some .int), Cond.classLink RX2 34 "java/lang/IllegalArgumentException", Cond.initialized "java/lang/IllegalArgumentException", Cond.fieldLink RX2 45 "CraneReach$Rig" "plates" "I", Cond.fieldLink RX2 48 "CraneReach" "load" "I", Cond.methodLink RX2 30 yX2_isWithin, Cond.static yX2_isWithin, Cond.code yX2_isWithin cX2_isWithin 3 (some .boolean), Cond.methodLink RX2 41 yX1_becomeLike, Cond.instanceMethod yX1_becomeLike, Cond.selects RX1 yX1_becomeLike yX1_becomeLike, Cond.code yX1_becomeLike cX1_becomeLike 3 none, Cond.fieldLink RX1 18 "CraneReach$Rig" "plates" "I", Cond.methodLink RX1 22 yX1_drawn, Cond.instanceMethod yX1_drawn, Cond.selects RX1 yX1_drawn yX1_drawn, Cond.code yX1_drawn cX1_drawn 2 (some .int), Cond.methodLink RX1 26 yX1_draw, Cond.instanceMethod yX1_draw]
def wsL_law0_r4 : List Cond := [Cond.selects RX1 yX1_draw yX1_draw, Cond.code yX1_draw cX1_draw 3 none, Cond.methodLink RX1 30 yX1_allowed, Cond.instanceMethod yX1_allowed, Cond.selects RX1 yX1_allowed yX1_allowed, Cond.code yX1_allowed cX1_allowed 3 (some .int), Cond.methodLink RX1 33 yX1_allow, Cond.instanceMethod yX1_allow, Cond.selects RX1 yX1_allow yX1_allow, Cond.code yX1_allow cX1_allow 4 none, Cond.methodLink RX2 51 yX2_requireSafe, Cond.instanceMethod yX2_requireSafe, Cond.selects RX2 yX2_requireSafe yX2_requireSafe, Cond.code yX2_requireSafe cX2_requireSafe 3 none, Cond.classLink RX2 91 "java/lang/IllegalStateException", Cond.initialized "java/lang/IllegalStateException", Cond.fieldLink RX2 98 "CraneReach" "direction" "I", Cond.methodLink RX2 105 yX1_isSafe, Cond.instanceMethod yX1_isSafe, Cond.selects RX1 yX1_isSafe yX1_isSafe, Cond.code yX1_isSafe cX1_isSafe 5 (some .boolean), Cond.methodLink RX1 36 yX1_strain, Cond.instanceMethod yX1_strain, Cond.selects RX1 yX1_strain yX1_strain]
def wsL_law0_r5 : List Cond := [Cond.code yX1_strain cX1_strain 7 (some .int), Cond.methodLink RX1 40 yX1_slant, Cond.static yX1_slant, Cond.code yX1_slant cX1_slant 2 (some .int), Cond.methodLink RL 81 yX3_setPlates, Cond.instanceMethod yX3_setPlates, Cond.selects RX3 yX3_setPlates yX3_setPlates, Cond.code yX3_setPlates cX3_setPlates 3 (some .int), Cond.fieldLink RX3 26 "CraneReachModel" "thrown" "I", Cond.fieldLink RX3 46 "CraneReachModel" "plates" "I", Cond.methodLink RX3 29 yX3_isIn, Cond.static yX3_isIn, Cond.code yX3_isIn cX3_isIn 3 (some .boolean), Cond.methodLink RX3 62 yX3_no, Cond.instanceMethod yX3_no, Cond.selects RX3 yX3_no yX3_no, Cond.code yX3_no cX3_no 2 (some .int), Cond.methodLink RX3 65 yX3_isSafe_, Cond.instanceMethod yX3_isSafe_, Cond.selects RX3 yX3_isSafe_ yX3_isSafe_, Cond.code yX3_isSafe_ cX3_isSafe_ 1 (some .boolean), Cond.fieldLink RX3 53 "CraneReachModel" "load" "I", Cond.fieldLink RX3 56 "CraneReachModel" "direction" "I", Cond.methodLink RX3 59 yX3_isSafe]
def wsL_law0_r6 : List Cond := [Cond.instanceMethod yX3_isSafe, Cond.selects RX3 yX3_isSafe yX3_isSafe, Cond.code yX3_isSafe cX3_isSafe 5 (some .boolean), Cond.methodLink RX3 49 yX3_strain, Cond.instanceMethod yX3_strain, Cond.selects RX3 yX3_strain yX3_strain, Cond.code yX3_strain cX3_strain 8 (some .int), Cond.methodLink RX3 33 Lib.Math.abs.name, Cond.static Lib.Math.abs.name, Cond.initialized "java/lang/Math", Cond.code Lib.Math.abs.name Lib.Math.abs.code 1 (some .int), Cond.fieldLink RX3 39 "CraneReachModel" "SLANT" "[I", Cond.methodLink RX3 42 Lib.Math.min.name, Cond.static Lib.Math.min.name, Cond.code Lib.Math.min.name Lib.Math.min.code 2 (some .int), Cond.methodLink RL 82 yX3_thrown, Cond.instanceMethod yX3_thrown, Cond.selects RX3 yX3_thrown yX3_thrown, Cond.code yX3_thrown cX3_thrown 1 (some .int), Cond.methodLink RL 85 yL_setOutrigger, Cond.static yL_setOutrigger, Cond.codeWith yL_setOutrigger cL_setOutrigger 5 (some .int) [(0, 10, 13, 21), (0, 10, 17, 13), (0, 10, 21, 15)], Cond.classLink RL 21 "java/lang/IndexOutOfBoundsException", Cond.methodLink RL 17 yX2_setOutrigger]
def wsL_law0_r7 : List Cond := [Cond.instanceMethod yX2_setOutrigger, Cond.selects RX2 yX2_setOutrigger yX2_setOutrigger, Cond.code yX2_setOutrigger cX2_setOutrigger 4 (some .int), Cond.methodLink RX2 55 yX2_requireSide, Cond.static yX2_requireSide, Cond.code yX2_requireSide cX2_requireSide 1 none, Cond.classLink RX2 159 "java/lang/IndexOutOfBoundsException", Cond.initialized "java/lang/IndexOutOfBoundsException", Cond.methodLink RX2 61 yX2_requireNoLoad, Cond.instanceMethod yX2_requireNoLoad, Cond.selects RX2 yX2_requireNoLoad yX2_requireNoLoad, Cond.code yX2_requireNoLoad cX2_requireNoLoad 1 none, Cond.methodLink RX2 64 yX1_draw, Cond.methodLink RX2 68 yX1_drawn, Cond.methodLink RL 88 yX3_setOutrigger, Cond.instanceMethod yX3_setOutrigger, Cond.selects RX3 yX3_setOutrigger yX3_setOutrigger, Cond.code yX3_setOutrigger cX3_setOutrigger 4 (some .int), Cond.methodLink RX3 68 yX3_isSide, Cond.static yX3_isSide, Cond.code yX3_isSide cX3_isSide 1 (some .boolean), Cond.methodLink RL 89 yL_setLimit, Cond.static yL_setLimit, Cond.codeWith yL_setLimit cL_setLimit 5 (some .int) [(0, 10, 13, 13), (0, 10, 17, 15)]]
def wsL_law0_r8 : List Cond := [Cond.methodLink RL 23 yX2_setLimit, Cond.instanceMethod yX2_setLimit, Cond.selects RX2 yX2_setLimit yX2_setLimit, Cond.code yX2_setLimit cX2_setLimit 4 (some .int), Cond.methodLink RX2 72 yX2_requireReach, Cond.static yX2_requireReach, Cond.code yX2_requireReach cX2_requireReach 1 none, Cond.methodLink RX2 113 yX2_isReach, Cond.static yX2_isReach, Cond.code yX2_isReach cX2_isReach 1 (some .boolean), Cond.methodLink RX2 77 yX1_allow, Cond.methodLink RX2 80 yX1_allowed, Cond.methodLink RL 91 yX3_setLimit, Cond.instanceMethod yX3_setLimit, Cond.selects RX3 yX3_setLimit yX3_setLimit, Cond.code yX3_setLimit cX3_setLimit 4 (some .int), Cond.methodLink RX3 72 yX3_isReach, Cond.static yX3_isReach, Cond.code yX3_isReach cX3_isReach 1 (some .boolean), Cond.methodLink RX3 75 yX3_isLoad, Cond.static yX3_isLoad, Cond.code yX3_isLoad cX3_isLoad 1 (some .boolean), Cond.methodLink RL 92 yL_lift, Cond.static yL_lift]
def wsL_law0_r9 : List Cond := [Cond.codeWith yL_lift cL_lift 4 (some .int) [(0, 9, 12, 13), (0, 9, 15, 15)], Cond.methodLink RL 26 yX2_lift, Cond.instanceMethod yX2_lift, Cond.selects RX2 yX2_lift yX2_lift, Cond.code yX2_lift cX2_lift 2 (some .int), Cond.fieldLink RX2 85 "CraneReach" "lifts" "I", Cond.fieldLink RX2 88 "CraneReach" "tonsLifted" "I", Cond.methodLink RL 94 yX3_lift, Cond.instanceMethod yX3_lift, Cond.selects RX3 yX3_lift yX3_lift, Cond.code yX3_lift cX3_lift 2 (some .int), Cond.fieldLink RX3 78 "CraneReachModel" "lifts" "I", Cond.fieldLink RX3 81 "CraneReachModel" "tons" "I", Cond.methodLink RL 95 yL_setDown, Cond.static yL_setDown, Cond.codeWith yL_setDown cL_setDown 3 (some .int) [(0, 8, 11, 15)], Cond.methodLink RL 29 yX2_setDown, Cond.instanceMethod yX2_setDown, Cond.selects RX2 yX2_setDown yX2_setDown, Cond.code yX2_setDown cX2_setDown 2 (some .int), Cond.methodLink RL 98 yX3_setDown, Cond.instanceMethod yX3_setDown, Cond.selects RX3 yX3_setDown yX3_setDown, Cond.code yX3_setDown cX3_setDown 2 (some .int)]
def wsL_law0_r10 : List Cond := [Cond.methodLink RL 99 yL_swing, Cond.static yL_swing, Cond.codeWith yL_swing cL_swing 5 (some .int) [(0, 10, 13, 13)], Cond.methodLink RL 33 yX2_swing, Cond.instanceMethod yX2_swing, Cond.selects RX2 yX2_swing yX2_swing, Cond.code yX2_swing cX2_swing 5 (some .int), Cond.methodLink RX2 101 yX2_turned, Cond.static yX2_turned, Cond.code yX2_turned cX2_turned 2 (some .int), Cond.methodLink RX2 108 yX2_countMoves, Cond.instanceMethod yX2_countMoves, Cond.selects RX2 yX2_countMoves yX2_countMoves, Cond.code yX2_countMoves cX2_countMoves 2 none, Cond.fieldLink RX2 121 "CraneReach" "movesWithLoad" "I", Cond.methodLink RL 102 yX3_swing, Cond.instanceMethod yX3_swing, Cond.selects RX3 yX3_swing yX3_swing, Cond.code yX3_swing cX3_swing 5 (some .int), Cond.methodLink RX3 87 yX3_moved, Cond.instanceMethod yX3_moved, Cond.selects RX3 yX3_moved yX3_moved, Cond.code yX3_moved cX3_moved 1 none, Cond.fieldLink RX3 84 "CraneReachModel" "moves" "I"]
def wsL_law0_r11 : List Cond := [Cond.methodLink RL 103 yL_stretch, Cond.static yL_stretch, Cond.codeWith yL_stretch cL_stretch 5 (some .int) [(0, 10, 13, 13)], Cond.methodLink RL 37 yX2_stretch, Cond.instanceMethod yX2_stretch, Cond.selects RX2 yX2_stretch yX2_stretch, Cond.code yX2_stretch cX2_stretch 5 (some .int), Cond.methodLink RL 105 yX3_stretch, Cond.instanceMethod yX3_stretch, Cond.selects RX3 yX3_stretch yX3_stretch, Cond.code yX3_stretch cX3_stretch 5 (some .int), Cond.methodLink RL 106 yX2_direction, Cond.instanceMethod yX2_direction, Cond.selects RX2 yX2_direction yX2_direction, Cond.code yX2_direction cX2_direction 1 (some .int), Cond.methodLink RL 109 yX3_direction, Cond.instanceMethod yX3_direction, Cond.selects RX3 yX3_direction yX3_direction, Cond.code yX3_direction cX3_direction 1 (some .int), Cond.methodLink RX3 90 yX3_ok, Cond.instanceMethod yX3_ok, Cond.selects RX3 yX3_ok yX3_ok, Cond.code yX3_ok cX3_ok 2 (some .int), Cond.methodLink RL 110 yX2_reach]
def wsL_law0_r12 : List Cond := [Cond.instanceMethod yX2_reach, Cond.selects RX2 yX2_reach yX2_reach, Cond.code yX2_reach cX2_reach 1 (some .int), Cond.methodLink RL 113 yX3_reach, Cond.instanceMethod yX3_reach, Cond.selects RX3 yX3_reach yX3_reach, Cond.code yX3_reach cX3_reach 1 (some .int), Cond.methodLink RL 114 yX2_load, Cond.instanceMethod yX2_load, Cond.selects RX2 yX2_load yX2_load, Cond.code yX2_load cX2_load 1 (some .int), Cond.methodLink RL 117 yX3_load, Cond.instanceMethod yX3_load, Cond.selects RX3 yX3_load yX3_load, Cond.code yX3_load cX3_load 1 (some .int), Cond.methodLink RL 118 yX2_plates, Cond.instanceMethod yX2_plates, Cond.selects RX2 yX2_plates yX2_plates, Cond.code yX2_plates cX2_plates 1 (some .int), Cond.methodLink RL 121 yX3_plates, Cond.instanceMethod yX3_plates, Cond.selects RX3 yX3_plates yX3_plates, Cond.code yX3_plates cX3_plates 1 (some .int), Cond.methodLink RL 122 yL_outrigger]
def wsL_law0_r13 : List Cond := [Cond.static yL_outrigger, Cond.codeWith yL_outrigger cL_outrigger 4 (some .int) [(0, 9, 12, 21)], Cond.methodLink RL 40 yX2_outrigger, Cond.instanceMethod yX2_outrigger, Cond.selects RX2 yX2_outrigger yX2_outrigger, Cond.code yX2_outrigger cX2_outrigger 2 (some .int), Cond.methodLink RL 124 yX3_outrigger, Cond.instanceMethod yX3_outrigger, Cond.selects RX3 yX3_outrigger yX3_outrigger, Cond.code yX3_outrigger cX3_outrigger 2 (some .int), Cond.methodLink RL 125 yL_limitAt, Cond.static yL_limitAt, Cond.codeWith yL_limitAt cL_limitAt 4 (some .int) [(0, 9, 12, 13)], Cond.methodLink RL 43 yX2_limitAt, Cond.instanceMethod yX2_limitAt, Cond.selects RX2 yX2_limitAt yX2_limitAt, Cond.code yX2_limitAt cX2_limitAt 2 (some .int), Cond.methodLink RL 127 yX3_limitAt, Cond.instanceMethod yX3_limitAt, Cond.selects RX3 yX3_limitAt yX3_limitAt, Cond.code yX3_limitAt cX3_limitAt 2 (some .int), Cond.methodLink RL 128 yL_strainOn, Cond.static yL_strainOn, Cond.codeWith yL_strainOn cL_strainOn 4 (some .int) [(0, 9, 12, 21)]]
def wsL_law0_r14 : List Cond := [Cond.methodLink RL 46 yX2_strainOn, Cond.instanceMethod yX2_strainOn, Cond.selects RX2 yX2_strainOn yX2_strainOn, Cond.code yX2_strainOn cX2_strainOn 2 (some .int), Cond.methodLink RX2 117 yX1_strain, Cond.methodLink RL 130 yX3_strainOn, Cond.instanceMethod yX3_strainOn, Cond.selects RX3 yX3_strainOn yX3_strainOn, Cond.code yX3_strainOn cX3_strainOn 2 (some .int), Cond.methodLink RX3 93 yX3_strainNow, Cond.instanceMethod yX3_strainNow, Cond.selects RX3 yX3_strainNow yX3_strainNow, Cond.code yX3_strainNow cX3_strainNow 2 (some .int), Cond.methodLink RL 131 yX2_weakestSide, Cond.instanceMethod yX2_weakestSide, Cond.selects RX2 yX2_weakestSide yX2_weakestSide, Cond.code yX2_weakestSide cX2_weakestSide 5 (some .int), Cond.methodLink RL 134 yX3_weakestSide, Cond.instanceMethod yX3_weakestSide, Cond.selects RX3 yX3_weakestSide yX3_weakestSide, Cond.code yX3_weakestSide cX3_weakestSide 1 (some .int), Cond.methodLink RX3 96 yX3_weakest, Cond.instanceMethod yX3_weakest, Cond.selects RX3 yX3_weakest yX3_weakest]
def wsL_law0_r15 : List Cond := [Cond.code yX3_weakest cX3_weakest 3 (some .int), Cond.methodLink RL 135 yX2_lifts, Cond.instanceMethod yX2_lifts, Cond.selects RX2 yX2_lifts yX2_lifts, Cond.code yX2_lifts cX2_lifts 1 (some .int), Cond.methodLink RL 138 yX3_lifts, Cond.instanceMethod yX3_lifts, Cond.selects RX3 yX3_lifts yX3_lifts, Cond.code yX3_lifts cX3_lifts 1 (some .int), Cond.methodLink RL 139 yX2_tonsLifted, Cond.instanceMethod yX2_tonsLifted, Cond.selects RX2 yX2_tonsLifted yX2_tonsLifted, Cond.code yX2_tonsLifted cX2_tonsLifted 1 (some .int), Cond.methodLink RL 142 yX3_tonsLifted, Cond.instanceMethod yX3_tonsLifted, Cond.selects RX3 yX3_tonsLifted yX3_tonsLifted, Cond.code yX3_tonsLifted cX3_tonsLifted 1 (some .int), Cond.methodLink RL 143 yX2_movesWithLoad, Cond.instanceMethod yX2_movesWithLoad, Cond.selects RX2 yX2_movesWithLoad yX2_movesWithLoad, Cond.code yX2_movesWithLoad cX2_movesWithLoad 1 (some .int), Cond.methodLink RL 146 yX3_movesWithLoad, Cond.instanceMethod yX3_movesWithLoad, Cond.selects RX3 yX3_movesWithLoad yX3_movesWithLoad]
def wsL_law0_r16 : List Cond := [Cond.code yX3_movesWithLoad cX3_movesWithLoad 1 (some .int), Cond.methodLink RL 147 yL_isSafeWith, Cond.static yL_isSafeWith, Cond.codeWith yL_isSafeWith cL_isSafeWith 6 (some .int) [(0, 19, 22, 21), (0, 19, 26, 13)], Cond.methodLink RL 49 yX2_isSafeWith, Cond.instanceMethod yX2_isSafeWith, Cond.selects RX2 yX2_isSafeWith yX2_isSafeWith, Cond.code yX2_isSafeWith cX2_isSafeWith 4 (some .boolean), Cond.methodLink RX2 124 yX2_requireDirection, Cond.static yX2_requireDirection, Cond.code yX2_requireDirection cX2_requireDirection 1 none, Cond.methodLink RX2 127 yX2_requireLoad, Cond.static yX2_requireLoad, Cond.code yX2_requireLoad cX2_requireLoad 1 none, Cond.methodLink RL 150 yX3_isSafeWith, Cond.instanceMethod yX3_isSafeWith, Cond.selects RX3 yX3_isSafeWith yX3_isSafeWith, Cond.code yX3_isSafeWith cX3_isSafeWith 4 (some .boolean), Cond.methodLink RX3 100 yX3_isDirection, Cond.static yX3_isDirection, Cond.code yX3_isDirection cX3_isDirection 1 (some .boolean), Cond.methodLink RX3 103 yX3_isNot, Cond.instanceMethod yX3_isNot, Cond.selects RX3 yX3_isNot yX3_isNot]
def wsL_law0_r17 : List Cond := [Cond.code yX3_isNot cX3_isNot 2 (some .boolean), Cond.methodLink RL 151 yX2_greatestLoad, Cond.instanceMethod yX2_greatestLoad, Cond.selects RX2 yX2_greatestLoad yX2_greatestLoad, Cond.code yX2_greatestLoad cX2_greatestLoad 2 (some .int), Cond.methodLink RL 154 yX3_greatestLoad, Cond.instanceMethod yX3_greatestLoad, Cond.selects RX3 yX3_greatestLoad yX3_greatestLoad, Cond.code yX3_greatestLoad cX3_greatestLoad 1 (some .int), Cond.methodLink RX3 106 yX3_greatest, Cond.instanceMethod yX3_greatest, Cond.selects RX3 yX3_greatest yX3_greatest, Cond.code yX3_greatest cX3_greatest 2 (some .int), Cond.methodLink RL 155 yL_farthestReach, Cond.static yL_farthestReach, Cond.codeWith yL_farthestReach cL_farthestReach 5 (some .int) [(0, 10, 13, 21), (0, 10, 17, 13)], Cond.methodLink RL 53 yX2_farthestReach, Cond.instanceMethod yX2_farthestReach, Cond.selects RX2 yX2_farthestReach yX2_farthestReach, Cond.code yX2_farthestReach cX2_farthestReach 5 (some .int), Cond.methodLink RL 157 yX3_farthestReach, Cond.instanceMethod yX3_farthestReach, Cond.selects RX3 yX3_farthestReach yX3_farthestReach, Cond.code yX3_farthestReach cX3_farthestReach 4 (some .int)]
def wsL_law0_r18 : List Cond := [Cond.methodLink RL 158 yL_safeDirections, Cond.static yL_safeDirections, Cond.codeWith yL_safeDirections cL_safeDirections 5 (some .int) [(0, 10, 13, 13)], Cond.methodLink RL 56 yX2_safeDirections, Cond.instanceMethod yX2_safeDirections, Cond.selects RX2 yX2_safeDirections yX2_safeDirections, Cond.code yX2_safeDirections cX2_safeDirections 5 (some .int), Cond.methodLink RL 160 yX3_safeDirections, Cond.instanceMethod yX3_safeDirections, Cond.selects RX3 yX3_safeDirections yX3_safeDirections, Cond.code yX3_safeDirections cX3_safeDirections 3 (some .int), Cond.methodLink RX3 109 yX3_safeAround, Cond.instanceMethod yX3_safeAround, Cond.selects RX3 yX3_safeAround yX3_safeAround, Cond.code yX3_safeAround cX3_safeAround 5 (some .int), Cond.methodLink RL 161 yL_platesNeeded, Cond.static yL_platesNeeded, Cond.codeWith yL_platesNeeded cL_platesNeeded 6 (some .int) [(0, 12, 15, 21), (0, 12, 19, 13)], Cond.methodLink RL 59 yX2_platesNeeded, Cond.instanceMethod yX2_platesNeeded, Cond.selects RX2 yX2_platesNeeded yX2_platesNeeded, Cond.code yX2_platesNeeded cX2_platesNeeded 5 (some .int), Cond.methodLink RL 163 yX3_platesNeeded, Cond.instanceMethod yX3_platesNeeded]
def wsL_law0_r19 : List Cond := [Cond.selects RX3 yX3_platesNeeded yX3_platesNeeded, Cond.code yX3_platesNeeded cX3_platesNeeded 4 (some .int), Cond.methodLink RX3 112 yX3_fewestPlates, Cond.instanceMethod yX3_fewestPlates, Cond.selects RX3 yX3_fewestPlates yX3_fewestPlates, Cond.code yX3_fewestPlates cX3_fewestPlates 6 (some .int), Cond.methodLink RL 164 yL_fewestMoves, Cond.static yL_fewestMoves, Cond.codeWith yL_fewestMoves cL_fewestMoves 6 (some .int) [(0, 12, 15, 21), (0, 12, 19, 13)], Cond.methodLink RL 63 yX2_fewestMoves, Cond.instanceMethod yX2_fewestMoves, Cond.selects RX2 yX2_fewestMoves yX2_fewestMoves, Cond.code yX2_fewestMoves cX2_fewestMoves 4 (some .int), Cond.methodLink RX2 130 yX0_spread, Cond.instanceMethod yX0_spread, Cond.selects RX0 yX0_spread yX0_spread, Cond.code yX0_spread cX0_spread 6 (some .int), Cond.fieldLink RX0 18 "CraneReach$Plan" "places" "I", Cond.methodLink RX0 22 yX0_visit, Cond.instanceMethod yX0_visit, Cond.selects RX0 yX0_visit yX0_visit, Cond.code yX0_visit cX0_visit 7 none, Cond.methodLink RX0 30 yX0_placeOf, Cond.static yX0_placeOf]
def wsL_law0_r20 : List Cond := [Cond.code yX0_placeOf cX0_placeOf 2 (some .int), Cond.methodLink RX0 37 yX1_isSafe, Cond.methodLink RX0 26 yX0_visitBeside, Cond.instanceMethod yX0_visitBeside, Cond.selects RX0 yX0_visitBeside yX0_visitBeside, Cond.code yX0_visitBeside cX0_visitBeside 7 none, Cond.methodLink RX2 134 yX0_movesTo, Cond.instanceMethod yX0_movesTo, Cond.selects RX0 yX0_movesTo yX0_movesTo, Cond.code yX0_movesTo cX0_movesTo 4 (some .int), Cond.methodLink RL 166 yX3_fewestMoves, Cond.instanceMethod yX3_fewestMoves, Cond.selects RX3 yX3_fewestMoves yX3_fewestMoves, Cond.code yX3_fewestMoves cX3_fewestMoves 4 (some .int), Cond.methodLink RX3 123 yX3_goOut, Cond.instanceMethod yX3_goOut, Cond.selects RX3 yX3_goOut yX3_goOut, Cond.code yX3_goOut cX3_goOut 6 none, Cond.fieldLink RX3 116 "CraneReachModel" "many" "I", Cond.methodLink RX3 119 yX3_comeTo, Cond.instanceMethod yX3_comeTo, Cond.selects RX3 yX3_comeTo yX3_comeTo, Cond.code yX3_comeTo cX3_comeTo 5 none, Cond.methodLink RL 167 yL_placesWithin]
def wsL_law0_r21 : List Cond := [Cond.static yL_placesWithin, Cond.codeWith yL_placesWithin cL_placesWithin 4 (some .int) [(0, 9, 12, 13)], Cond.methodLink RL 66 yX2_placesWithin, Cond.instanceMethod yX2_placesWithin, Cond.selects RX2 yX2_placesWithin yX2_placesWithin, Cond.code yX2_placesWithin cX2_placesWithin 2 (some .int), Cond.methodLink RL 169 yX3_placesWithin, Cond.instanceMethod yX3_placesWithin, Cond.selects RX3 yX3_placesWithin yX3_placesWithin, Cond.code yX3_placesWithin cX3_placesWithin 2 (some .int), Cond.methodLink RX3 127 yX3_within, Cond.instanceMethod yX3_within, Cond.selects RX3 yX3_within yX3_within, Cond.code yX3_within cX3_within 2 (some .int), Cond.methodLink RL 170 yL_bestOutrigger, Cond.static yL_bestOutrigger, Cond.codeWith yL_bestOutrigger cL_bestOutrigger 4 (some .int) [(0, 9, 12, 13)], Cond.methodLink RL 69 yX2_bestOutrigger, Cond.instanceMethod yX2_bestOutrigger, Cond.selects RX2 yX2_bestOutrigger yX2_bestOutrigger, Cond.code yX2_bestOutrigger cX2_bestOutrigger 7 (some .int), Cond.methodLink RL 172 yX3_bestOutrigger, Cond.instanceMethod yX3_bestOutrigger, Cond.selects RX3 yX3_bestOutrigger yX3_bestOutrigger]
def wsL_law0_r22 : List Cond := [Cond.code yX3_bestOutrigger cX3_bestOutrigger 6 (some .int), Cond.methodLink RL 173 yX2_meanLoad, Cond.instanceMethod yX2_meanLoad, Cond.selects RX2 yX2_meanLoad yX2_meanLoad, Cond.code yX2_meanLoad cX2_meanLoad 1 (some .double), Cond.methodLink RL 177 yX3_meanLoad, Cond.instanceMethod yX3_meanLoad, Cond.selects RX3 yX3_meanLoad yX3_meanLoad, Cond.code yX3_meanLoad cX3_meanLoad 1 (some .double), Cond.methodLink RL 178 yX2_digest, Cond.instanceMethod yX2_digest, Cond.selects RX2 yX2_digest yX2_digest, Cond.code yX2_digest cX2_digest 4 (some .long), Cond.constantLong RX2 137 (1907), Cond.methodLink RX2 139 yX2_mixed, Cond.static yX2_mixed, Cond.code yX2_mixed cX2_mixed 3 (some .long), Cond.constantLong RX2 153 (31), Cond.methodLink RX2 143 yX2_weakestSide, Cond.methodLink RX2 147 yX2_greatestLoad, Cond.methodLink RX2 150 yX2_safeDirections, Cond.methodLink RL 182 yX3_digest, Cond.instanceMethod yX3_digest, Cond.selects RX3 yX3_digest yX3_digest]
def wsL_law0_r23 : List Cond := [Cond.code yX3_digest cX3_digest 8 (some .long), Cond.constantLong RX3 130 (1907), Cond.constantLong RX3 132 (31)]
def wsL_law0 : List Cond := (wsL_law0_r1 ++ (wsL_law0_r2 ++ (wsL_law0_r3 ++ (wsL_law0_r4 ++ (wsL_law0_r5 ++ (wsL_law0_r6 ++ (wsL_law0_r7 ++ (wsL_law0_r8 ++ (wsL_law0_r9 ++ (wsL_law0_r10 ++ (wsL_law0_r11 ++ (wsL_law0_r12 ++ (wsL_law0_r13 ++ (wsL_law0_r14 ++ (wsL_law0_r15 ++ (wsL_law0_r16 ++ (wsL_law0_r17 ++ (wsL_law0_r18 ++ (wsL_law0_r19 ++ (wsL_law0_r20 ++ (wsL_law0_r21 ++ (wsL_law0_r22 ++ wsL_law0_r23)))))))))))))))))))))) ++ wsX20 ++ wsX30 ++ wsX10 ++ wsX00 ++ ([] : List Cond)
def wsL_law : List Cond := wsL_law0 ++ (vx_atS RX2 38 "java/lang/IllegalArgumentException" ["java/lang/RuntimeException", "java/lang/Exception"]).filter goodWord ++ (vx_atS RX2 95 "java/lang/IllegalStateException" ["java/lang/RuntimeException", "java/lang/Exception"]).filter goodWord ++ (vx_atS RX2 163 "java/lang/IndexOutOfBoundsException" ["java/lang/RuntimeException", "java/lang/Exception"]).filter goodWord
end
section
theorem dX0_init_0 : decode cX0_init 0 = .ok (.aload_n 0, 1) := by decide +kernel
theorem dX0_init_1 : decode cX0_init 1 = .ok (.invokespecial 3, 3) := by decide +kernel
theorem dX0_init_4 : decode cX0_init 4 = .ok (.aload_n 0, 1) := by decide +kernel
theorem dX0_init_5 : decode cX0_init 5 = .ok (.sipush 224, 3) := by decide +kernel
theorem dX0_init_8 : decode cX0_init 8 = .ok (.newarray .int, 2) := by decide +kernel
theorem dX0_init_10 : decode cX0_init 10 = .ok (.putfield 9, 3) := by decide +kernel
theorem dX0_init_13 : decode cX0_init 13 = .ok (.aload_n 0, 1) := by decide +kernel
theorem dX0_init_14 : decode cX0_init 14 = .ok (.sipush 224, 3) := by decide +kernel
theorem dX0_init_17 : decode cX0_init 17 = .ok (.newarray .int, 2) := by decide +kernel
theorem dX0_init_19 : decode cX0_init 19 = .ok (.putfield 15, 3) := by decide +kernel
theorem dX0_init_22 : decode cX0_init 22 = .ok (.return_, 1) := by decide +kernel
set_option maxRecDepth 20000 in
theorem ggX0_spread_X0_visit : GoodIn wsX0_spread wsX0_visit := goodIn_r _ [8, 2, 1, 3, 9, 10, 7, 11, 12, 13, 14, 15, 16, 17, 18, 19, 20, 21, 22, 23, 24, 25, 26, 27, 28, 29, 30, 31, 32, 33, 34, 35, 36, 37, 38, 39, 40, 47, 48, 49, 50, 51, 52] (by decide +kernel) (by decide +kernel)
set_option maxRecDepth 20000 in
theorem gX0_spread_X0_visit : GoodIn wsX0_spread (wsV RX0 22 RX0 yX0_visit wsX0_visit) := goodIn_app (goodIn_of _ (by decide +kernel)) ggX0_spread_X0_visit
set_option maxRecDepth 20000 in
theorem ggX0_spread_X0_visitBeside : GoodIn wsX0_spread wsX0_visitBeside := goodIn_r _ [44, 2, 45, 13, 46, 4, 5, 6, 7, 8, 1, 3, 9, 10, 11, 12, 14, 15, 16, 17, 18, 19, 20, 21, 22, 23, 24, 25, 26, 27, 28, 29, 30, 31, 32, 33, 34, 35, 36, 37, 38, 39, 40, 47, 48, 49, 50, 51, 52] (by decide +kernel) (by decide +kernel)
set_option maxRecDepth 20000 in
theorem gX0_spread_X0_visitBeside : GoodIn wsX0_spread (wsV RX0 26 RX0 yX0_visitBeside wsX0_visitBeside) := goodIn_app (goodIn_of _ (by decide +kernel)) ggX0_spread_X0_visitBeside
theorem dX0_spread_0 : decode cX0_spread 0 = .ok (.aload_n 0, 1) := by decide +kernel
theorem dX0_spread_1 : decode cX0_spread 1 = .ok (.iconst 0, 1) := by decide +kernel
theorem dX0_spread_2 : decode cX0_spread 2 = .ok (.putfield 18, 3) := by decide +kernel
theorem dX0_spread_5 : decode cX0_spread 5 = .ok (.iconst 0, 1) := by decide +kernel
theorem dX0_spread_6 : decode cX0_spread 6 = .ok (.istore 5, 2) := by decide +kernel
theorem dX0_spread_8 : decode cX0_spread 8 = .ok (.iload 5, 2) := by decide +kernel
theorem dX0_spread_10 : decode cX0_spread 10 = .ok (.aload_n 0, 1) := by decide +kernel
theorem dX0_spread_11 : decode cX0_spread 11 = .ok (.getfield 9, 3) := by decide +kernel
theorem dX0_spread_14 : decode cX0_spread 14 = .ok (.arraylength, 1) := by decide +kernel
theorem dX0_spread_15 : decode cX0_spread 15 = .ok (.if_icmp .ge 17, 3) := by decide +kernel
theorem dX0_spread_18 : decode cX0_spread 18 = .ok (.aload_n 0, 1) := by decide +kernel
theorem dX0_spread_19 : decode cX0_spread 19 = .ok (.getfield 9, 3) := by decide +kernel
theorem dX0_spread_22 : decode cX0_spread 22 = .ok (.iload 5, 2) := by decide +kernel
theorem dX0_spread_24 : decode cX0_spread 24 = .ok (.iconst (-1), 1) := by decide +kernel
theorem dX0_spread_25 : decode cX0_spread 25 = .ok (.iastore, 1) := by decide +kernel
theorem dX0_spread_26 : decode cX0_spread 26 = .ok (.iinc 5 1, 3) := by decide +kernel
theorem dX0_spread_29 : decode cX0_spread 29 = .ok (.goto (-21), 3) := by decide +kernel
theorem dX0_spread_32 : decode cX0_spread 32 = .ok (.aload_n 0, 1) := by decide +kernel
theorem dX0_spread_33 : decode cX0_spread 33 = .ok (.aload_n 1, 1) := by decide +kernel
theorem dX0_spread_34 : decode cX0_spread 34 = .ok (.iload_n 2, 1) := by decide +kernel
theorem dX0_spread_35 : decode cX0_spread 35 = .ok (.iload_n 3, 1) := by decide +kernel
theorem dX0_spread_36 : decode cX0_spread 36 = .ok (.iload 4, 2) := by decide +kernel
theorem dX0_spread_38 : decode cX0_spread 38 = .ok (.iconst 0, 1) := by decide +kernel
theorem dX0_spread_39 : decode cX0_spread 39 = .ok (.invokevirtual 22, 3) := by decide +kernel
theorem dX0_spread_42 : decode cX0_spread 42 = .ok (.iconst 0, 1) := by decide +kernel
theorem dX0_spread_43 : decode cX0_spread 43 = .ok (.istore 5, 2) := by decide +kernel
theorem dX0_spread_45 : decode cX0_spread 45 = .ok (.iload 5, 2) := by decide +kernel
theorem dX0_spread_47 : decode cX0_spread 47 = .ok (.aload_n 0, 1) := by decide +kernel
theorem dX0_spread_48 : decode cX0_spread 48 = .ok (.getfield 18, 3) := by decide +kernel
theorem dX0_spread_51 : decode cX0_spread 51 = .ok (.if_icmp .ge 32, 3) := by decide +kernel
theorem dX0_spread_54 : decode cX0_spread 54 = .ok (.iload 5, 2) := by decide +kernel
theorem dX0_spread_56 : decode cX0_spread 56 = .ok (.aload_n 0, 1) := by decide +kernel
theorem dX0_spread_57 : decode cX0_spread 57 = .ok (.getfield 15, 3) := by decide +kernel
theorem dX0_spread_60 : decode cX0_spread 60 = .ok (.arraylength, 1) := by decide +kernel
theorem dX0_spread_61 : decode cX0_spread 61 = .ok (.if_icmp .ge 22, 3) := by decide +kernel
theorem dX0_spread_64 : decode cX0_spread 64 = .ok (.aload_n 0, 1) := by decide +kernel
theorem dX0_spread_65 : decode cX0_spread 65 = .ok (.aload_n 1, 1) := by decide +kernel
theorem dX0_spread_66 : decode cX0_spread 66 = .ok (.iload_n 2, 1) := by decide +kernel
theorem dX0_spread_67 : decode cX0_spread 67 = .ok (.aload_n 0, 1) := by decide +kernel
theorem dX0_spread_68 : decode cX0_spread 68 = .ok (.getfield 15, 3) := by decide +kernel
theorem dX0_spread_71 : decode cX0_spread 71 = .ok (.iload 5, 2) := by decide +kernel
theorem dX0_spread_73 : decode cX0_spread 73 = .ok (.iaload, 1) := by decide +kernel
theorem dX0_spread_74 : decode cX0_spread 74 = .ok (.invokevirtual 26, 3) := by decide +kernel
theorem dX0_spread_77 : decode cX0_spread 77 = .ok (.iinc 5 1, 3) := by decide +kernel
theorem dX0_spread_80 : decode cX0_spread 80 = .ok (.goto (-35), 3) := by decide +kernel
theorem dX0_spread_83 : decode cX0_spread 83 = .ok (.aload_n 0, 1) := by decide +kernel
theorem dX0_spread_84 : decode cX0_spread 84 = .ok (.getfield 18, 3) := by decide +kernel
theorem dX0_spread_87 : decode cX0_spread 87 = .ok (.ireturn, 1) := by decide +kernel
set_option maxRecDepth 20000 in
theorem ggX0_movesTo_X0_placeOf : GoodIn wsX0_movesTo wsX0_placeOf := goodIn_r _ [5, 6, 7, 8, 9, 10, 11] (by decide +kernel) (by decide +kernel)
set_option maxRecDepth 20000 in
theorem gX0_movesTo_X0_placeOf : GoodIn wsX0_movesTo (va_wsS RX0 30 yX0_placeOf wsX0_placeOf) := goodIn_app (goodIn_of _ (by decide +kernel)) ggX0_movesTo_X0_placeOf
theorem dX0_movesTo_0 : decode cX0_movesTo 0 = .ok (.iload_n 1, 1) := by decide +kernel
theorem dX0_movesTo_1 : decode cX0_movesTo 1 = .ok (.iload_n 2, 1) := by decide +kernel
theorem dX0_movesTo_2 : decode cX0_movesTo 2 = .ok (.invokestatic 30, 3) := by decide +kernel
theorem dX0_movesTo_5 : decode cX0_movesTo 5 = .ok (.istore_n 3, 1) := by decide +kernel
theorem dX0_movesTo_6 : decode cX0_movesTo 6 = .ok (.iload_n 3, 1) := by decide +kernel
theorem dX0_movesTo_7 : decode cX0_movesTo 7 = .ok (.ifCond .lt 21, 3) := by decide +kernel
theorem dX0_movesTo_10 : decode cX0_movesTo 10 = .ok (.iload_n 3, 1) := by decide +kernel
theorem dX0_movesTo_11 : decode cX0_movesTo 11 = .ok (.aload_n 0, 1) := by decide +kernel
theorem dX0_movesTo_12 : decode cX0_movesTo 12 = .ok (.getfield 9, 3) := by decide +kernel
theorem dX0_movesTo_15 : decode cX0_movesTo 15 = .ok (.arraylength, 1) := by decide +kernel
theorem dX0_movesTo_16 : decode cX0_movesTo 16 = .ok (.if_icmp .ge 12, 3) := by decide +kernel
theorem dX0_movesTo_19 : decode cX0_movesTo 19 = .ok (.aload_n 0, 1) := by decide +kernel
theorem dX0_movesTo_20 : decode cX0_movesTo 20 = .ok (.getfield 9, 3) := by decide +kernel
theorem dX0_movesTo_23 : decode cX0_movesTo 23 = .ok (.iload_n 3, 1) := by decide +kernel
theorem dX0_movesTo_24 : decode cX0_movesTo 24 = .ok (.iaload, 1) := by decide +kernel
theorem dX0_movesTo_25 : decode cX0_movesTo 25 = .ok (.goto 4, 3) := by decide +kernel
theorem dX0_movesTo_28 : decode cX0_movesTo 28 = .ok (.iconst (-1), 1) := by decide +kernel
theorem dX0_movesTo_29 : decode cX0_movesTo 29 = .ok (.ireturn, 1) := by decide +kernel
set_option maxRecDepth 20000 in
theorem ggX0_visitBeside_X2_turned : GoodIn wsX0_visitBeside wsX2_turned := goodIn_r _ [4] (by decide +kernel) (by decide +kernel)
set_option maxRecDepth 20000 in
theorem gX0_visitBeside_X2_turned_n34 : GoodIn wsX0_visitBeside (wsX2_turned) := ggX0_visitBeside_X2_turned
set_option maxRecDepth 20000 in
theorem ggX0_visitBeside_X0_visit : GoodIn wsX0_visitBeside wsX0_visit := goodIn_r _ [9, 1, 10, 11, 12, 13, 8, 14, 15, 3, 16, 17, 18, 19, 20, 21, 22, 23, 24, 25, 26, 27, 28, 29, 30, 31, 32, 33, 34, 35, 36, 37, 38, 39, 40, 41, 42, 43, 44, 45, 46, 47, 48] (by decide +kernel) (by decide +kernel)
set_option maxRecDepth 20000 in
theorem gX0_visitBeside_X0_visit : GoodIn wsX0_visitBeside (wsV RX0 22 RX0 yX0_visit wsX0_visit) := goodIn_app (goodIn_of _ (by decide +kernel)) ggX0_visitBeside_X0_visit
theorem dX0_visitBeside_0 : decode cX0_visitBeside 0 = .ok (.iload_n 3, 1) := by decide +kernel
theorem dX0_visitBeside_1 : decode cX0_visitBeside 1 = .ok (.ifCond .lt 12, 3) := by decide +kernel
theorem dX0_visitBeside_4 : decode cX0_visitBeside 4 = .ok (.iload_n 3, 1) := by decide +kernel
theorem dX0_visitBeside_5 : decode cX0_visitBeside 5 = .ok (.aload_n 0, 1) := by decide +kernel
theorem dX0_visitBeside_6 : decode cX0_visitBeside 6 = .ok (.getfield 9, 3) := by decide +kernel
theorem dX0_visitBeside_9 : decode cX0_visitBeside 9 = .ok (.arraylength, 1) := by decide +kernel
theorem dX0_visitBeside_10 : decode cX0_visitBeside 10 = .ok (.if_icmp .lt 4, 3) := by decide +kernel
theorem dX0_visitBeside_13 : decode cX0_visitBeside 13 = .ok (.return_, 1) := by decide +kernel
theorem dX0_visitBeside_14 : decode cX0_visitBeside 14 = .ok (.iload_n 3, 1) := by decide +kernel
theorem dX0_visitBeside_15 : decode cX0_visitBeside 15 = .ok (.bipush 28, 2) := by decide +kernel
theorem dX0_visitBeside_17 : decode cX0_visitBeside 17 = .ok (.idiv, 1) := by decide +kernel
theorem dX0_visitBeside_18 : decode cX0_visitBeside 18 = .ok (.istore 4, 2) := by decide +kernel
theorem dX0_visitBeside_20 : decode cX0_visitBeside 20 = .ok (.iload_n 3, 1) := by decide +kernel
theorem dX0_visitBeside_21 : decode cX0_visitBeside 21 = .ok (.bipush 28, 2) := by decide +kernel
theorem dX0_visitBeside_23 : decode cX0_visitBeside 23 = .ok (.irem, 1) := by decide +kernel
theorem dX0_visitBeside_24 : decode cX0_visitBeside 24 = .ok (.iconst 3, 1) := by decide +kernel
theorem dX0_visitBeside_25 : decode cX0_visitBeside 25 = .ok (.iadd, 1) := by decide +kernel
theorem dX0_visitBeside_26 : decode cX0_visitBeside 26 = .ok (.istore 5, 2) := by decide +kernel
theorem dX0_visitBeside_28 : decode cX0_visitBeside 28 = .ok (.aload_n 0, 1) := by decide +kernel
theorem dX0_visitBeside_29 : decode cX0_visitBeside 29 = .ok (.getfield 9, 3) := by decide +kernel
theorem dX0_visitBeside_32 : decode cX0_visitBeside 32 = .ok (.iload_n 3, 1) := by decide +kernel
theorem dX0_visitBeside_33 : decode cX0_visitBeside 33 = .ok (.iaload, 1) := by decide +kernel
theorem dX0_visitBeside_34 : decode cX0_visitBeside 34 = .ok (.iconst 1, 1) := by decide +kernel
theorem dX0_visitBeside_35 : decode cX0_visitBeside 35 = .ok (.iadd, 1) := by decide +kernel
theorem dX0_visitBeside_36 : decode cX0_visitBeside 36 = .ok (.istore 6, 2) := by decide +kernel
theorem dX0_visitBeside_38 : decode cX0_visitBeside 38 = .ok (.aload_n 0, 1) := by decide +kernel
theorem dX0_visitBeside_39 : decode cX0_visitBeside 39 = .ok (.aload_n 1, 1) := by decide +kernel
theorem dX0_visitBeside_40 : decode cX0_visitBeside 40 = .ok (.iload_n 2, 1) := by decide +kernel
theorem dX0_visitBeside_41 : decode cX0_visitBeside 41 = .ok (.iload 4, 2) := by decide +kernel
theorem dX0_visitBeside_43 : decode cX0_visitBeside 43 = .ok (.iconst 1, 1) := by decide +kernel
theorem dX0_visitBeside_44 : decode cX0_visitBeside 44 = .ok (.invokestatic 34, 3) := by decide +kernel
theorem dX0_visitBeside_47 : decode cX0_visitBeside 47 = .ok (.iload 5, 2) := by decide +kernel
theorem dX0_visitBeside_49 : decode cX0_visitBeside 49 = .ok (.iload 6, 2) := by decide +kernel
theorem dX0_visitBeside_51 : decode cX0_visitBeside 51 = .ok (.invokevirtual 22, 3) := by decide +kernel
theorem dX0_visitBeside_54 : decode cX0_visitBeside 54 = .ok (.aload_n 0, 1) := by decide +kernel
theorem dX0_visitBeside_55 : decode cX0_visitBeside 55 = .ok (.aload_n 1, 1) := by decide +kernel
theorem dX0_visitBeside_56 : decode cX0_visitBeside 56 = .ok (.iload_n 2, 1) := by decide +kernel
theorem dX0_visitBeside_57 : decode cX0_visitBeside 57 = .ok (.iload 4, 2) := by decide +kernel
theorem dX0_visitBeside_59 : decode cX0_visitBeside 59 = .ok (.iconst (-1), 1) := by decide +kernel
theorem dX0_visitBeside_60 : decode cX0_visitBeside 60 = .ok (.invokestatic 34, 3) := by decide +kernel
theorem dX0_visitBeside_63 : decode cX0_visitBeside 63 = .ok (.iload 5, 2) := by decide +kernel
theorem dX0_visitBeside_65 : decode cX0_visitBeside 65 = .ok (.iload 6, 2) := by decide +kernel
theorem dX0_visitBeside_67 : decode cX0_visitBeside 67 = .ok (.invokevirtual 22, 3) := by decide +kernel
theorem dX0_visitBeside_70 : decode cX0_visitBeside 70 = .ok (.aload_n 0, 1) := by decide +kernel
theorem dX0_visitBeside_71 : decode cX0_visitBeside 71 = .ok (.aload_n 1, 1) := by decide +kernel
theorem dX0_visitBeside_72 : decode cX0_visitBeside 72 = .ok (.iload_n 2, 1) := by decide +kernel
theorem dX0_visitBeside_73 : decode cX0_visitBeside 73 = .ok (.iload 4, 2) := by decide +kernel
theorem dX0_visitBeside_75 : decode cX0_visitBeside 75 = .ok (.iload 5, 2) := by decide +kernel
theorem dX0_visitBeside_77 : decode cX0_visitBeside 77 = .ok (.iconst 1, 1) := by decide +kernel
theorem dX0_visitBeside_78 : decode cX0_visitBeside 78 = .ok (.iadd, 1) := by decide +kernel
theorem dX0_visitBeside_79 : decode cX0_visitBeside 79 = .ok (.iload 6, 2) := by decide +kernel
theorem dX0_visitBeside_81 : decode cX0_visitBeside 81 = .ok (.invokevirtual 22, 3) := by decide +kernel
theorem dX0_visitBeside_84 : decode cX0_visitBeside 84 = .ok (.aload_n 0, 1) := by decide +kernel
theorem dX0_visitBeside_85 : decode cX0_visitBeside 85 = .ok (.aload_n 1, 1) := by decide +kernel
theorem dX0_visitBeside_86 : decode cX0_visitBeside 86 = .ok (.iload_n 2, 1) := by decide +kernel
theorem dX0_visitBeside_87 : decode cX0_visitBeside 87 = .ok (.iload 4, 2) := by decide +kernel
theorem dX0_visitBeside_89 : decode cX0_visitBeside 89 = .ok (.iload 5, 2) := by decide +kernel
theorem dX0_visitBeside_91 : decode cX0_visitBeside 91 = .ok (.iconst 1, 1) := by decide +kernel
theorem dX0_visitBeside_92 : decode cX0_visitBeside 92 = .ok (.isub, 1) := by decide +kernel
theorem dX0_visitBeside_93 : decode cX0_visitBeside 93 = .ok (.iload 6, 2) := by decide +kernel
theorem dX0_visitBeside_95 : decode cX0_visitBeside 95 = .ok (.invokevirtual 22, 3) := by decide +kernel
theorem dX0_visitBeside_98 : decode cX0_visitBeside 98 = .ok (.return_, 1) := by decide +kernel
set_option maxRecDepth 20000 in
theorem ggX0_visit_X0_placeOf : GoodIn wsX0_visit wsX0_placeOf := goodIn_r _ [7, 8, 9, 10, 11, 12, 13] (by decide +kernel) (by decide +kernel)
set_option maxRecDepth 20000 in
theorem gX0_visit_X0_placeOf : GoodIn wsX0_visit (va_wsS RX0 30 yX0_placeOf wsX0_placeOf) := goodIn_app (goodIn_of _ (by decide +kernel)) ggX0_visit_X0_placeOf
set_option maxRecDepth 20000 in
theorem ggX0_visit_X1_isSafe : GoodIn wsX0_visit wsX1_isSafe := goodIn_r _ [18, 19, 20, 21, 17, 22, 23, 24, 25, 26, 27, 28, 29, 30, 31, 32, 33, 34, 35, 36, 40, 41, 42] (by decide +kernel) (by decide +kernel)
set_option maxRecDepth 20000 in
theorem gX0_visit_X1_isSafe : GoodIn wsX0_visit (wsV RX0 37 RX1 yX1_isSafe wsX1_isSafe) := goodIn_app (goodIn_of _ (by decide +kernel)) ggX0_visit_X1_isSafe
theorem dX0_visit_0 : decode cX0_visit 0 = .ok (.iload_n 3, 1) := by decide +kernel
theorem dX0_visit_1 : decode cX0_visit 1 = .ok (.iload 4, 2) := by decide +kernel
theorem dX0_visit_3 : decode cX0_visit 3 = .ok (.invokestatic 30, 3) := by decide +kernel
theorem dX0_visit_6 : decode cX0_visit 6 = .ok (.istore 6, 2) := by decide +kernel
theorem dX0_visit_8 : decode cX0_visit 8 = .ok (.iload 6, 2) := by decide +kernel
theorem dX0_visit_10 : decode cX0_visit 10 = .ok (.ifCond .lt 24, 3) := by decide +kernel
theorem dX0_visit_13 : decode cX0_visit 13 = .ok (.iload 6, 2) := by decide +kernel
theorem dX0_visit_15 : decode cX0_visit 15 = .ok (.aload_n 0, 1) := by decide +kernel
theorem dX0_visit_16 : decode cX0_visit 16 = .ok (.getfield 9, 3) := by decide +kernel
theorem dX0_visit_19 : decode cX0_visit 19 = .ok (.arraylength, 1) := by decide +kernel
theorem dX0_visit_20 : decode cX0_visit 20 = .ok (.if_icmp .ge 14, 3) := by decide +kernel
theorem dX0_visit_23 : decode cX0_visit 23 = .ok (.aload_n 0, 1) := by decide +kernel
theorem dX0_visit_24 : decode cX0_visit 24 = .ok (.getfield 9, 3) := by decide +kernel
theorem dX0_visit_27 : decode cX0_visit 27 = .ok (.iload 6, 2) := by decide +kernel
theorem dX0_visit_29 : decode cX0_visit 29 = .ok (.iaload, 1) := by decide +kernel
theorem dX0_visit_30 : decode cX0_visit 30 = .ok (.iconst (-1), 1) := by decide +kernel
theorem dX0_visit_31 : decode cX0_visit 31 = .ok (.if_icmp .eq 4, 3) := by decide +kernel
theorem dX0_visit_34 : decode cX0_visit 34 = .ok (.return_, 1) := by decide +kernel
theorem dX0_visit_35 : decode cX0_visit 35 = .ok (.aload_n 0, 1) := by decide +kernel
theorem dX0_visit_36 : decode cX0_visit 36 = .ok (.getfield 18, 3) := by decide +kernel
theorem dX0_visit_39 : decode cX0_visit 39 = .ok (.aload_n 0, 1) := by decide +kernel
theorem dX0_visit_40 : decode cX0_visit 40 = .ok (.getfield 15, 3) := by decide +kernel
theorem dX0_visit_43 : decode cX0_visit 43 = .ok (.arraylength, 1) := by decide +kernel
theorem dX0_visit_44 : decode cX0_visit 44 = .ok (.if_icmp .ge 44, 3) := by decide +kernel
theorem dX0_visit_47 : decode cX0_visit 47 = .ok (.aload_n 1, 1) := by decide +kernel
theorem dX0_visit_48 : decode cX0_visit 48 = .ok (.iload_n 2, 1) := by decide +kernel
theorem dX0_visit_49 : decode cX0_visit 49 = .ok (.iload_n 3, 1) := by decide +kernel
theorem dX0_visit_50 : decode cX0_visit 50 = .ok (.iload 4, 2) := by decide +kernel
theorem dX0_visit_52 : decode cX0_visit 52 = .ok (.invokevirtual 37, 3) := by decide +kernel
theorem dX0_visit_55 : decode cX0_visit 55 = .ok (.ifCond .eq 33, 3) := by decide +kernel
theorem dX0_visit_58 : decode cX0_visit 58 = .ok (.aload_n 0, 1) := by decide +kernel
theorem dX0_visit_59 : decode cX0_visit 59 = .ok (.getfield 9, 3) := by decide +kernel
theorem dX0_visit_62 : decode cX0_visit 62 = .ok (.iload 6, 2) := by decide +kernel
theorem dX0_visit_64 : decode cX0_visit 64 = .ok (.iload 5, 2) := by decide +kernel
theorem dX0_visit_66 : decode cX0_visit 66 = .ok (.iastore, 1) := by decide +kernel
theorem dX0_visit_67 : decode cX0_visit 67 = .ok (.aload_n 0, 1) := by decide +kernel
theorem dX0_visit_68 : decode cX0_visit 68 = .ok (.getfield 15, 3) := by decide +kernel
theorem dX0_visit_71 : decode cX0_visit 71 = .ok (.aload_n 0, 1) := by decide +kernel
theorem dX0_visit_72 : decode cX0_visit 72 = .ok (.getfield 18, 3) := by decide +kernel
theorem dX0_visit_75 : decode cX0_visit 75 = .ok (.iload 6, 2) := by decide +kernel
theorem dX0_visit_77 : decode cX0_visit 77 = .ok (.iastore, 1) := by decide +kernel
theorem dX0_visit_78 : decode cX0_visit 78 = .ok (.aload_n 0, 1) := by decide +kernel
theorem dX0_visit_79 : decode cX0_visit 79 = .ok (.dup, 1) := by decide +kernel
theorem dX0_visit_80 : decode cX0_visit 80 = .ok (.getfield 18, 3) := by decide +kernel
theorem dX0_visit_83 : decode cX0_visit 83 = .ok (.iconst 1, 1) := by decide +kernel
theorem dX0_visit_84 : decode cX0_visit 84 = .ok (.iadd, 1) := by decide +kernel
theorem dX0_visit_85 : decode cX0_visit 85 = .ok (.putfield 18, 3) := by decide +kernel
theorem dX0_visit_88 : decode cX0_visit 88 = .ok (.return_, 1) := by decide +kernel
set_option maxRecDepth 20000 in
theorem ggX0_placeOf_X2_isReach : GoodIn wsX0_placeOf wsX2_isReach := goodIn_r _ [3, 4, 5, 2, 6] (by decide +kernel) (by decide +kernel)
set_option maxRecDepth 20000 in
theorem gX0_placeOf_X2_isReach_n43 : GoodIn wsX0_placeOf (wsX2_isReach) := ggX0_placeOf_X2_isReach
theorem dX0_placeOf_0 : decode cX0_placeOf 0 = .ok (.iload_n 1, 1) := by decide +kernel
theorem dX0_placeOf_1 : decode cX0_placeOf 1 = .ok (.invokestatic 43, 3) := by decide +kernel
theorem dX0_placeOf_4 : decode cX0_placeOf 4 = .ok (.ifCond .eq 14, 3) := by decide +kernel
theorem dX0_placeOf_7 : decode cX0_placeOf 7 = .ok (.iload_n 0, 1) := by decide +kernel
theorem dX0_placeOf_8 : decode cX0_placeOf 8 = .ok (.bipush 28, 2) := by decide +kernel
theorem dX0_placeOf_10 : decode cX0_placeOf 10 = .ok (.imul, 1) := by decide +kernel
theorem dX0_placeOf_11 : decode cX0_placeOf 11 = .ok (.iload_n 1, 1) := by decide +kernel
theorem dX0_placeOf_12 : decode cX0_placeOf 12 = .ok (.iadd, 1) := by decide +kernel
theorem dX0_placeOf_13 : decode cX0_placeOf 13 = .ok (.iconst 3, 1) := by decide +kernel
theorem dX0_placeOf_14 : decode cX0_placeOf 14 = .ok (.isub, 1) := by decide +kernel
theorem dX0_placeOf_15 : decode cX0_placeOf 15 = .ok (.goto 4, 3) := by decide +kernel
theorem dX0_placeOf_18 : decode cX0_placeOf 18 = .ok (.iconst (-1), 1) := by decide +kernel
theorem dX0_placeOf_19 : decode cX0_placeOf 19 = .ok (.ireturn, 1) := by decide +kernel
theorem dX1_init_0 : decode cX1_init 0 = .ok (.aload_n 0, 1) := by decide +kernel
theorem dX1_init_1 : decode cX1_init 1 = .ok (.invokespecial 3, 3) := by decide +kernel
theorem dX1_init_4 : decode cX1_init 4 = .ok (.aload_n 0, 1) := by decide +kernel
theorem dX1_init_5 : decode cX1_init 5 = .ok (.iconst 4, 1) := by decide +kernel
theorem dX1_init_6 : decode cX1_init 6 = .ok (.newarray .int, 2) := by decide +kernel
theorem dX1_init_8 : decode cX1_init 8 = .ok (.putfield 9, 3) := by decide +kernel
theorem dX1_init_11 : decode cX1_init 11 = .ok (.aload_n 0, 1) := by decide +kernel
theorem dX1_init_12 : decode cX1_init 12 = .ok (.bipush 28, 2) := by decide +kernel
theorem dX1_init_14 : decode cX1_init 14 = .ok (.newarray .int, 2) := by decide +kernel
theorem dX1_init_16 : decode cX1_init 16 = .ok (.putfield 15, 3) := by decide +kernel
theorem dX1_init_19 : decode cX1_init 19 = .ok (.iconst 0, 1) := by decide +kernel
theorem dX1_init_20 : decode cX1_init 20 = .ok (.istore_n 1, 1) := by decide +kernel
theorem dX1_init_21 : decode cX1_init 21 = .ok (.iload_n 1, 1) := by decide +kernel
theorem dX1_init_22 : decode cX1_init 22 = .ok (.aload_n 0, 1) := by decide +kernel
theorem dX1_init_23 : decode cX1_init 23 = .ok (.getfield 15, 3) := by decide +kernel
theorem dX1_init_26 : decode cX1_init 26 = .ok (.arraylength, 1) := by decide +kernel
theorem dX1_init_27 : decode cX1_init 27 = .ok (.if_icmp .ge 21, 3) := by decide +kernel
theorem dX1_init_30 : decode cX1_init 30 = .ok (.aload_n 0, 1) := by decide +kernel
theorem dX1_init_31 : decode cX1_init 31 = .ok (.getfield 15, 3) := by decide +kernel
theorem dX1_init_34 : decode cX1_init 34 = .ok (.iload_n 1, 1) := by decide +kernel
theorem dX1_init_35 : decode cX1_init 35 = .ok (.bipush 90, 2) := by decide +kernel
theorem dX1_init_37 : decode cX1_init 37 = .ok (.iload_n 1, 1) := by decide +kernel
theorem dX1_init_38 : decode cX1_init 38 = .ok (.iconst 3, 1) := by decide +kernel
theorem dX1_init_39 : decode cX1_init 39 = .ok (.iadd, 1) := by decide +kernel
theorem dX1_init_40 : decode cX1_init 40 = .ok (.idiv, 1) := by decide +kernel
theorem dX1_init_41 : decode cX1_init 41 = .ok (.iastore, 1) := by decide +kernel
theorem dX1_init_42 : decode cX1_init 42 = .ok (.iinc 1 1, 3) := by decide +kernel
theorem dX1_init_45 : decode cX1_init 45 = .ok (.goto (-24), 3) := by decide +kernel
theorem dX1_init_48 : decode cX1_init 48 = .ok (.return_, 1) := by decide +kernel
set_option maxRecDepth 20000 in
theorem ggX1_becomeLike_X1_drawn : GoodIn wsX1_becomeLike wsX1_drawn := goodIn_r _ [6, 7, 21, 22, 23] (by decide +kernel) (by decide +kernel)
set_option maxRecDepth 20000 in
theorem gX1_becomeLike_X1_drawn : GoodIn wsX1_becomeLike (wsV RX1 22 RX1 yX1_drawn wsX1_drawn) := goodIn_app (goodIn_of _ (by decide +kernel)) ggX1_becomeLike_X1_drawn
set_option maxRecDepth 20000 in
theorem ggX1_becomeLike_X1_draw : GoodIn wsX1_becomeLike wsX1_draw := goodIn_r _ [11, 7, 21, 22, 23] (by decide +kernel) (by decide +kernel)
set_option maxRecDepth 20000 in
theorem gX1_becomeLike_X1_draw : GoodIn wsX1_becomeLike (wsV RX1 26 RX1 yX1_draw wsX1_draw) := goodIn_app (goodIn_of _ (by decide +kernel)) ggX1_becomeLike_X1_draw
set_option maxRecDepth 20000 in
theorem ggX1_becomeLike_X1_allowed : GoodIn wsX1_becomeLike wsX1_allowed := goodIn_r _ [15, 16, 21, 22, 23] (by decide +kernel) (by decide +kernel)
set_option maxRecDepth 20000 in
theorem gX1_becomeLike_X1_allowed : GoodIn wsX1_becomeLike (wsV RX1 30 RX1 yX1_allowed wsX1_allowed) := goodIn_app (goodIn_of _ (by decide +kernel)) ggX1_becomeLike_X1_allowed
set_option maxRecDepth 20000 in
theorem ggX1_becomeLike_X1_allow : GoodIn wsX1_becomeLike wsX1_allow := goodIn_r _ [20, 16, 21, 22, 23] (by decide +kernel) (by decide +kernel)
set_option maxRecDepth 20000 in
theorem gX1_becomeLike_X1_allow : GoodIn wsX1_becomeLike (wsV RX1 33 RX1 yX1_allow wsX1_allow) := goodIn_app (goodIn_of _ (by decide +kernel)) ggX1_becomeLike_X1_allow
theorem dX1_becomeLike_0 : decode cX1_becomeLike 0 = .ok (.aload_n 0, 1) := by decide +kernel
theorem dX1_becomeLike_1 : decode cX1_becomeLike 1 = .ok (.aload_n 1, 1) := by decide +kernel
theorem dX1_becomeLike_2 : decode cX1_becomeLike 2 = .ok (.getfield 18, 3) := by decide +kernel
theorem dX1_becomeLike_5 : decode cX1_becomeLike 5 = .ok (.putfield 18, 3) := by decide +kernel
theorem dX1_becomeLike_8 : decode cX1_becomeLike 8 = .ok (.iconst 0, 1) := by decide +kernel
theorem dX1_becomeLike_9 : decode cX1_becomeLike 9 = .ok (.istore_n 2, 1) := by decide +kernel
theorem dX1_becomeLike_10 : decode cX1_becomeLike 10 = .ok (.iload_n 2, 1) := by decide +kernel
theorem dX1_becomeLike_11 : decode cX1_becomeLike 11 = .ok (.iconst 4, 1) := by decide +kernel
theorem dX1_becomeLike_12 : decode cX1_becomeLike 12 = .ok (.if_icmp .ge 19, 3) := by decide +kernel
theorem dX1_becomeLike_15 : decode cX1_becomeLike 15 = .ok (.aload_n 0, 1) := by decide +kernel
theorem dX1_becomeLike_16 : decode cX1_becomeLike 16 = .ok (.iload_n 2, 1) := by decide +kernel
theorem dX1_becomeLike_17 : decode cX1_becomeLike 17 = .ok (.aload_n 1, 1) := by decide +kernel
theorem dX1_becomeLike_18 : decode cX1_becomeLike 18 = .ok (.iload_n 2, 1) := by decide +kernel
theorem dX1_becomeLike_19 : decode cX1_becomeLike 19 = .ok (.invokevirtual 22, 3) := by decide +kernel
theorem dX1_becomeLike_22 : decode cX1_becomeLike 22 = .ok (.invokevirtual 26, 3) := by decide +kernel
theorem dX1_becomeLike_25 : decode cX1_becomeLike 25 = .ok (.iinc 2 1, 3) := by decide +kernel
theorem dX1_becomeLike_28 : decode cX1_becomeLike 28 = .ok (.goto (-18), 3) := by decide +kernel
theorem dX1_becomeLike_31 : decode cX1_becomeLike 31 = .ok (.iconst 3, 1) := by decide +kernel
theorem dX1_becomeLike_32 : decode cX1_becomeLike 32 = .ok (.istore_n 2, 1) := by decide +kernel
theorem dX1_becomeLike_33 : decode cX1_becomeLike 33 = .ok (.iload_n 2, 1) := by decide +kernel
theorem dX1_becomeLike_34 : decode cX1_becomeLike 34 = .ok (.bipush 30, 2) := by decide +kernel
theorem dX1_becomeLike_36 : decode cX1_becomeLike 36 = .ok (.if_icmp .gt 19, 3) := by decide +kernel
theorem dX1_becomeLike_39 : decode cX1_becomeLike 39 = .ok (.aload_n 0, 1) := by decide +kernel
theorem dX1_becomeLike_40 : decode cX1_becomeLike 40 = .ok (.iload_n 2, 1) := by decide +kernel
theorem dX1_becomeLike_41 : decode cX1_becomeLike 41 = .ok (.aload_n 1, 1) := by decide +kernel
theorem dX1_becomeLike_42 : decode cX1_becomeLike 42 = .ok (.iload_n 2, 1) := by decide +kernel
theorem dX1_becomeLike_43 : decode cX1_becomeLike 43 = .ok (.invokevirtual 30, 3) := by decide +kernel
theorem dX1_becomeLike_46 : decode cX1_becomeLike 46 = .ok (.invokevirtual 33, 3) := by decide +kernel
theorem dX1_becomeLike_49 : decode cX1_becomeLike 49 = .ok (.iinc 2 1, 3) := by decide +kernel
theorem dX1_becomeLike_52 : decode cX1_becomeLike 52 = .ok (.goto (-19), 3) := by decide +kernel
theorem dX1_becomeLike_55 : decode cX1_becomeLike 55 = .ok (.return_, 1) := by decide +kernel
theorem dX1_drawn_0 : decode cX1_drawn 0 = .ok (.iload_n 1, 1) := by decide +kernel
theorem dX1_drawn_1 : decode cX1_drawn 1 = .ok (.ifCond .lt 21, 3) := by decide +kernel
theorem dX1_drawn_4 : decode cX1_drawn 4 = .ok (.iload_n 1, 1) := by decide +kernel
theorem dX1_drawn_5 : decode cX1_drawn 5 = .ok (.aload_n 0, 1) := by decide +kernel
theorem dX1_drawn_6 : decode cX1_drawn 6 = .ok (.getfield 9, 3) := by decide +kernel
theorem dX1_drawn_9 : decode cX1_drawn 9 = .ok (.arraylength, 1) := by decide +kernel
theorem dX1_drawn_10 : decode cX1_drawn 10 = .ok (.if_icmp .ge 12, 3) := by decide +kernel
theorem dX1_drawn_13 : decode cX1_drawn 13 = .ok (.aload_n 0, 1) := by decide +kernel
theorem dX1_drawn_14 : decode cX1_drawn 14 = .ok (.getfield 9, 3) := by decide +kernel
theorem dX1_drawn_17 : decode cX1_drawn 17 = .ok (.iload_n 1, 1) := by decide +kernel
theorem dX1_drawn_18 : decode cX1_drawn 18 = .ok (.iaload, 1) := by decide +kernel
theorem dX1_drawn_19 : decode cX1_drawn 19 = .ok (.goto 4, 3) := by decide +kernel
theorem dX1_drawn_22 : decode cX1_drawn 22 = .ok (.iconst 0, 1) := by decide +kernel
theorem dX1_drawn_23 : decode cX1_drawn 23 = .ok (.ireturn, 1) := by decide +kernel
theorem dX1_draw_0 : decode cX1_draw 0 = .ok (.iload_n 1, 1) := by decide +kernel
theorem dX1_draw_1 : decode cX1_draw 1 = .ok (.ifCond .lt 19, 3) := by decide +kernel
theorem dX1_draw_4 : decode cX1_draw 4 = .ok (.iload_n 1, 1) := by decide +kernel
theorem dX1_draw_5 : decode cX1_draw 5 = .ok (.aload_n 0, 1) := by decide +kernel
theorem dX1_draw_6 : decode cX1_draw 6 = .ok (.getfield 9, 3) := by decide +kernel
theorem dX1_draw_9 : decode cX1_draw 9 = .ok (.arraylength, 1) := by decide +kernel
theorem dX1_draw_10 : decode cX1_draw 10 = .ok (.if_icmp .ge 10, 3) := by decide +kernel
theorem dX1_draw_13 : decode cX1_draw 13 = .ok (.aload_n 0, 1) := by decide +kernel
theorem dX1_draw_14 : decode cX1_draw 14 = .ok (.getfield 9, 3) := by decide +kernel
theorem dX1_draw_17 : decode cX1_draw 17 = .ok (.iload_n 1, 1) := by decide +kernel
theorem dX1_draw_18 : decode cX1_draw 18 = .ok (.iload_n 2, 1) := by decide +kernel
theorem dX1_draw_19 : decode cX1_draw 19 = .ok (.iastore, 1) := by decide +kernel
theorem dX1_draw_20 : decode cX1_draw 20 = .ok (.return_, 1) := by decide +kernel
theorem dX1_allowed_0 : decode cX1_allowed 0 = .ok (.iload_n 1, 1) := by decide +kernel
theorem dX1_allowed_1 : decode cX1_allowed 1 = .ok (.iconst 3, 1) := by decide +kernel
theorem dX1_allowed_2 : decode cX1_allowed 2 = .ok (.isub, 1) := by decide +kernel
theorem dX1_allowed_3 : decode cX1_allowed 3 = .ok (.istore_n 2, 1) := by decide +kernel
theorem dX1_allowed_4 : decode cX1_allowed 4 = .ok (.iload_n 2, 1) := by decide +kernel
theorem dX1_allowed_5 : decode cX1_allowed 5 = .ok (.ifCond .lt 21, 3) := by decide +kernel
theorem dX1_allowed_8 : decode cX1_allowed 8 = .ok (.iload_n 2, 1) := by decide +kernel
theorem dX1_allowed_9 : decode cX1_allowed 9 = .ok (.aload_n 0, 1) := by decide +kernel
theorem dX1_allowed_10 : decode cX1_allowed 10 = .ok (.getfield 15, 3) := by decide +kernel
theorem dX1_allowed_13 : decode cX1_allowed 13 = .ok (.arraylength, 1) := by decide +kernel
theorem dX1_allowed_14 : decode cX1_allowed 14 = .ok (.if_icmp .ge 12, 3) := by decide +kernel
theorem dX1_allowed_17 : decode cX1_allowed 17 = .ok (.aload_n 0, 1) := by decide +kernel
theorem dX1_allowed_18 : decode cX1_allowed 18 = .ok (.getfield 15, 3) := by decide +kernel
theorem dX1_allowed_21 : decode cX1_allowed 21 = .ok (.iload_n 2, 1) := by decide +kernel
theorem dX1_allowed_22 : decode cX1_allowed 22 = .ok (.iaload, 1) := by decide +kernel
theorem dX1_allowed_23 : decode cX1_allowed 23 = .ok (.goto 4, 3) := by decide +kernel
theorem dX1_allowed_26 : decode cX1_allowed 26 = .ok (.iconst 0, 1) := by decide +kernel
theorem dX1_allowed_27 : decode cX1_allowed 27 = .ok (.ireturn, 1) := by decide +kernel
theorem dX1_allow_0 : decode cX1_allow 0 = .ok (.iload_n 1, 1) := by decide +kernel
theorem dX1_allow_1 : decode cX1_allow 1 = .ok (.iconst 3, 1) := by decide +kernel
theorem dX1_allow_2 : decode cX1_allow 2 = .ok (.isub, 1) := by decide +kernel
theorem dX1_allow_3 : decode cX1_allow 3 = .ok (.istore_n 3, 1) := by decide +kernel
theorem dX1_allow_4 : decode cX1_allow 4 = .ok (.iload_n 3, 1) := by decide +kernel
theorem dX1_allow_5 : decode cX1_allow 5 = .ok (.ifCond .lt 19, 3) := by decide +kernel
theorem dX1_allow_8 : decode cX1_allow 8 = .ok (.iload_n 3, 1) := by decide +kernel
theorem dX1_allow_9 : decode cX1_allow 9 = .ok (.aload_n 0, 1) := by decide +kernel
theorem dX1_allow_10 : decode cX1_allow 10 = .ok (.getfield 15, 3) := by decide +kernel
theorem dX1_allow_13 : decode cX1_allow 13 = .ok (.arraylength, 1) := by decide +kernel
theorem dX1_allow_14 : decode cX1_allow 14 = .ok (.if_icmp .ge 10, 3) := by decide +kernel
theorem dX1_allow_17 : decode cX1_allow 17 = .ok (.aload_n 0, 1) := by decide +kernel
theorem dX1_allow_18 : decode cX1_allow 18 = .ok (.getfield 15, 3) := by decide +kernel
theorem dX1_allow_21 : decode cX1_allow 21 = .ok (.iload_n 3, 1) := by decide +kernel
theorem dX1_allow_22 : decode cX1_allow 22 = .ok (.iload_n 2, 1) := by decide +kernel
theorem dX1_allow_23 : decode cX1_allow 23 = .ok (.iastore, 1) := by decide +kernel
theorem dX1_allow_24 : decode cX1_allow 24 = .ok (.return_, 1) := by decide +kernel
set_option maxRecDepth 20000 in
theorem ggX1_isSafe_X1_allowed : GoodIn wsX1_isSafe wsX1_allowed := goodIn_r _ [5, 6, 20, 21, 22] (by decide +kernel) (by decide +kernel)
set_option maxRecDepth 20000 in
theorem gX1_isSafe_X1_allowed : GoodIn wsX1_isSafe (wsV RX1 30 RX1 yX1_allowed wsX1_allowed) := goodIn_app (goodIn_of _ (by decide +kernel)) ggX1_isSafe_X1_allowed
set_option maxRecDepth 20000 in
theorem ggX1_isSafe_X1_strain : GoodIn wsX1_isSafe wsX1_strain := goodIn_r _ [10, 11, 12, 13, 14, 4, 15, 16, 17, 18, 19, 20, 21, 22] (by decide +kernel) (by decide +kernel)
set_option maxRecDepth 20000 in
theorem gX1_isSafe_X1_strain : GoodIn wsX1_isSafe (wsV RX1 36 RX1 yX1_strain wsX1_strain) := goodIn_app (goodIn_of _ (by decide +kernel)) ggX1_isSafe_X1_strain
theorem dX1_isSafe_0 : decode cX1_isSafe 0 = .ok (.iload_n 1, 1) := by decide +kernel
theorem dX1_isSafe_1 : decode cX1_isSafe 1 = .ok (.aload_n 0, 1) := by decide +kernel
theorem dX1_isSafe_2 : decode cX1_isSafe 2 = .ok (.iload_n 3, 1) := by decide +kernel
theorem dX1_isSafe_3 : decode cX1_isSafe 3 = .ok (.invokevirtual 30, 3) := by decide +kernel
theorem dX1_isSafe_6 : decode cX1_isSafe 6 = .ok (.if_icmp .le 5, 3) := by decide +kernel
theorem dX1_isSafe_9 : decode cX1_isSafe 9 = .ok (.iconst 0, 1) := by decide +kernel
theorem dX1_isSafe_10 : decode cX1_isSafe 10 = .ok (.ireturn, 1) := by decide +kernel
theorem dX1_isSafe_11 : decode cX1_isSafe 11 = .ok (.iconst 0, 1) := by decide +kernel
theorem dX1_isSafe_12 : decode cX1_isSafe 12 = .ok (.istore 4, 2) := by decide +kernel
theorem dX1_isSafe_14 : decode cX1_isSafe 14 = .ok (.iload 4, 2) := by decide +kernel
theorem dX1_isSafe_16 : decode cX1_isSafe 16 = .ok (.iconst 4, 1) := by decide +kernel
theorem dX1_isSafe_17 : decode cX1_isSafe 17 = .ok (.if_icmp .ge 23, 3) := by decide +kernel
theorem dX1_isSafe_20 : decode cX1_isSafe 20 = .ok (.aload_n 0, 1) := by decide +kernel
theorem dX1_isSafe_21 : decode cX1_isSafe 21 = .ok (.iload 4, 2) := by decide +kernel
theorem dX1_isSafe_23 : decode cX1_isSafe 23 = .ok (.iload_n 1, 1) := by decide +kernel
theorem dX1_isSafe_24 : decode cX1_isSafe 24 = .ok (.iload_n 2, 1) := by decide +kernel
theorem dX1_isSafe_25 : decode cX1_isSafe 25 = .ok (.iload_n 3, 1) := by decide +kernel
theorem dX1_isSafe_26 : decode cX1_isSafe 26 = .ok (.invokevirtual 36, 3) := by decide +kernel
theorem dX1_isSafe_29 : decode cX1_isSafe 29 = .ok (.ifCond .le 5, 3) := by decide +kernel
theorem dX1_isSafe_32 : decode cX1_isSafe 32 = .ok (.iconst 0, 1) := by decide +kernel
theorem dX1_isSafe_33 : decode cX1_isSafe 33 = .ok (.ireturn, 1) := by decide +kernel
theorem dX1_isSafe_34 : decode cX1_isSafe 34 = .ok (.iinc 4 1, 3) := by decide +kernel
theorem dX1_isSafe_37 : decode cX1_isSafe 37 = .ok (.goto (-23), 3) := by decide +kernel
theorem dX1_isSafe_40 : decode cX1_isSafe 40 = .ok (.iconst 1, 1) := by decide +kernel
theorem dX1_isSafe_41 : decode cX1_isSafe 41 = .ok (.ireturn, 1) := by decide +kernel
set_option maxRecDepth 20000 in
theorem ggX1_strain_X1_drawn : GoodIn wsX1_strain wsX1_drawn := goodIn_r _ [6, 7, 11, 12, 13] (by decide +kernel) (by decide +kernel)
set_option maxRecDepth 20000 in
theorem gX1_strain_X1_drawn : GoodIn wsX1_strain (wsV RX1 22 RX1 yX1_drawn wsX1_drawn) := goodIn_app (goodIn_of _ (by decide +kernel)) ggX1_strain_X1_drawn
set_option maxRecDepth 20000 in
theorem ggX1_strain_X1_slant : GoodIn wsX1_strain wsX1_slant := goodIn_r _ [10] (by decide +kernel) (by decide +kernel)
set_option maxRecDepth 20000 in
theorem gX1_strain_X1_slant : GoodIn wsX1_strain (va_wsS RX1 40 yX1_slant wsX1_slant) := goodIn_app (goodIn_of _ (by decide +kernel)) ggX1_strain_X1_slant
theorem dX1_strain_0 : decode cX1_strain 0 = .ok (.bipush 10, 2) := by decide +kernel
theorem dX1_strain_2 : decode cX1_strain 2 = .ok (.iconst 2, 1) := by decide +kernel
theorem dX1_strain_3 : decode cX1_strain 3 = .ok (.aload_n 0, 1) := by decide +kernel
theorem dX1_strain_4 : decode cX1_strain 4 = .ok (.iload_n 1, 1) := by decide +kernel
theorem dX1_strain_5 : decode cX1_strain 5 = .ok (.invokevirtual 22, 3) := by decide +kernel
theorem dX1_strain_8 : decode cX1_strain 8 = .ok (.iadd, 1) := by decide +kernel
theorem dX1_strain_9 : decode cX1_strain 9 = .ok (.imul, 1) := by decide +kernel
theorem dX1_strain_10 : decode cX1_strain 10 = .ok (.istore 5, 2) := by decide +kernel
theorem dX1_strain_12 : decode cX1_strain 12 = .ok (.iload_n 3, 1) := by decide +kernel
theorem dX1_strain_13 : decode cX1_strain 13 = .ok (.iload_n 1, 1) := by decide +kernel
theorem dX1_strain_14 : decode cX1_strain 14 = .ok (.invokestatic 40, 3) := by decide +kernel
theorem dX1_strain_17 : decode cX1_strain 17 = .ok (.istore 6, 2) := by decide +kernel
theorem dX1_strain_19 : decode cX1_strain 19 = .ok (.iload_n 2, 1) := by decide +kernel
theorem dX1_strain_20 : decode cX1_strain 20 = .ok (.iload 4, 2) := by decide +kernel
theorem dX1_strain_22 : decode cX1_strain 22 = .ok (.iload 6, 2) := by decide +kernel
theorem dX1_strain_24 : decode cX1_strain 24 = .ok (.imul, 1) := by decide +kernel
theorem dX1_strain_25 : decode cX1_strain 25 = .ok (.iload 5, 2) := by decide +kernel
theorem dX1_strain_27 : decode cX1_strain 27 = .ok (.isub, 1) := by decide +kernel
theorem dX1_strain_28 : decode cX1_strain 28 = .ok (.imul, 1) := by decide +kernel
theorem dX1_strain_29 : decode cX1_strain 29 = .ok (.aload_n 0, 1) := by decide +kernel
theorem dX1_strain_30 : decode cX1_strain 30 = .ok (.getfield 18, 3) := by decide +kernel
theorem dX1_strain_33 : decode cX1_strain 33 = .ok (.iconst 2, 1) := by decide +kernel
theorem dX1_strain_34 : decode cX1_strain 34 = .ok (.imul, 1) := by decide +kernel
theorem dX1_strain_35 : decode cX1_strain 35 = .ok (.iconst 4, 1) := by decide +kernel
theorem dX1_strain_36 : decode cX1_strain 36 = .ok (.iload 6, 2) := by decide +kernel
theorem dX1_strain_38 : decode cX1_strain 38 = .ok (.imul, 1) := by decide +kernel
theorem dX1_strain_39 : decode cX1_strain 39 = .ok (.iload 5, 2) := by decide +kernel
theorem dX1_strain_41 : decode cX1_strain 41 = .ok (.iadd, 1) := by decide +kernel
theorem dX1_strain_42 : decode cX1_strain 42 = .ok (.imul, 1) := by decide +kernel
theorem dX1_strain_43 : decode cX1_strain 43 = .ok (.isub, 1) := by decide +kernel
theorem dX1_strain_44 : decode cX1_strain 44 = .ok (.bipush 20, 2) := by decide +kernel
theorem dX1_strain_46 : decode cX1_strain 46 = .ok (.iload 5, 2) := by decide +kernel
theorem dX1_strain_48 : decode cX1_strain 48 = .ok (.imul, 1) := by decide +kernel
theorem dX1_strain_49 : decode cX1_strain 49 = .ok (.isub, 1) := by decide +kernel
theorem dX1_strain_50 : decode cX1_strain 50 = .ok (.ireturn, 1) := by decide +kernel
theorem dX1_slant_0 : decode cX1_slant 0 = .ok (.iload_n 0, 1) := by decide +kernel
theorem dX1_slant_1 : decode cX1_slant 1 = .ok (.iconst 2, 1) := by decide +kernel
theorem dX1_slant_2 : decode cX1_slant 2 = .ok (.iload_n 1, 1) := by decide +kernel
theorem dX1_slant_3 : decode cX1_slant 3 = .ok (.imul, 1) := by decide +kernel
theorem dX1_slant_4 : decode cX1_slant 4 = .ok (.isub, 1) := by decide +kernel
theorem dX1_slant_5 : decode cX1_slant 5 = .ok (.bipush 8, 2) := by decide +kernel
theorem dX1_slant_7 : decode cX1_slant 7 = .ok (.iadd, 1) := by decide +kernel
theorem dX1_slant_8 : decode cX1_slant 8 = .ok (.bipush 8, 2) := by decide +kernel
theorem dX1_slant_10 : decode cX1_slant 10 = .ok (.irem, 1) := by decide +kernel
theorem dX1_slant_11 : decode cX1_slant 11 = .ok (.tableswitch 56 0 7 #[45, 48, 51, 53, 56, 53, 51, 48], 45) := by decide +kernel
theorem dX1_slant_56 : decode cX1_slant 56 = .ok (.bipush 10, 2) := by decide +kernel
theorem dX1_slant_58 : decode cX1_slant 58 = .ok (.ireturn, 1) := by decide +kernel
theorem dX1_slant_59 : decode cX1_slant 59 = .ok (.bipush 7, 2) := by decide +kernel
theorem dX1_slant_61 : decode cX1_slant 61 = .ok (.ireturn, 1) := by decide +kernel
theorem dX1_slant_62 : decode cX1_slant 62 = .ok (.iconst 0, 1) := by decide +kernel
theorem dX1_slant_63 : decode cX1_slant 63 = .ok (.ireturn, 1) := by decide +kernel
theorem dX1_slant_64 : decode cX1_slant 64 = .ok (.bipush (-7), 2) := by decide +kernel
theorem dX1_slant_66 : decode cX1_slant 66 = .ok (.ireturn, 1) := by decide +kernel
theorem dX1_slant_67 : decode cX1_slant 67 = .ok (.bipush (-10), 2) := by decide +kernel
theorem dX1_slant_69 : decode cX1_slant 69 = .ok (.ireturn, 1) := by decide +kernel
end
section
/-! ===== the words of this proof: what a call answers, the surroundings, how a world is changed in place ===== -/
abbrev vwCl : List vw_C := [(RX0, TX0, 3), (RX1, TX1, 3), (RX2, TX2, 9), (RX3, TX3, 13)]
def cA (ws : va_W) : Nat → Prop := fun q => ∃ (k : Nat) (e : va_E), ws[k]? = some (q, e)
/-- it answers v and leaves the heap as it is -/
def cR (v : Option Value) : Array Value → State → Outcome → State → Prop := fun _ st oc t => oc = .returned v ∧ t.heap = st.heap
/-- it answers v, B holds of the heap behind it, cells outside A are as they were -/
def cB (v : Option Value) (B : Heap → Prop) (A : Nat → Prop) : Array Value → State → Outcome → State → Prop := fun _ st oc t => (oc = .returned v ∧ B t.heap) ∧ va_F A st t
/-- it throws E -/
def cX (E0 : String) (B : Heap → Prop) (A : Nat → Prop) : String → State → State → Prop := fun E st t => (E = E0 ∧ B t.heap) ∧ va_F A st t
theorem cA_of {ws : va_W} {k : Nat} {q : Nat × va_E} (h : ws[k]? = some q) : cA ws q.1 := ⟨k, q.2, h⟩
theorem c_Dsame {A : Nat → Prop} {w w1 : va_W} (h : va_D A w) (ha : w1.map (fun q => q.1) = w.map (fun q => q.1)) : va_D A w1 := by
  have key : ∀ (k : Nat) (q : Nat × va_E), w1[k]? = some q → ∃ q2 : Nat × va_E, w[k]? = some q2 ∧ q2.1 = q.1 := by
    intro k q hq
    have h1 : (w1.map (fun q => q.1))[k]? = some q.1 := by rw [List.getElem?_map, hq]; rfl
    rw [ha, List.getElem?_map] at h1
    cases hw : w[k]? with
    | none => rw [hw] at h1; cases h1
    | some q2 => rw [hw] at h1; exact ⟨q2, rfl, Option.some.inj h1⟩
  refine ⟨fun i j p q hp hq e => ?_, fun k q hq => ?_⟩
  · obtain ⟨p2, hp2, ep⟩ := key i p hp
    obtain ⟨q2, hq2, eq⟩ := key j q hq
    exact h.1 i j p2 q2 hp2 hq2 (by rw [ep, eq]; exact e)
  · obtain ⟨q2, hq2, eq⟩ := key k q hq
    rw [← eq]
    exact h.2 k q2 hq2
/-- behind a call that wrote the cells wc in place: the other cells are as they were -/
theorem c_join {A0 : Nat → Prop} {D : va_G} {cl : List vw_C} {ws wc wr w1 ws' : va_W} {H H1 : Heap} (hP : va_P D cl ws H) (hD : va_D A0 ws) (isC isR perm : List Nat) (hC : isC.map (fun i => ws[i]?) = wc.map some) (hR : isR.map (fun i => ws[i]?) = wr.map some) (hn : va_nd (isR ++ isC) = true) (hdis : ∀ i ∈ isR, i ∉ isC)
    (hk : ∀ q : Nat, q < H.size → ¬ cA wc q → H1[q]? = H[q]?) (hP1 : va_P D cl w1 H1) (ha : w1.map (fun q => q.1) = wc.map (fun q => q.1)) (hp : perm.filterMap (fun i => (wr ++ w1)[i]?) = ws') (hp2 : perm.map (fun i => (wr ++ w1)[i]?) = ws'.map some) (hnp : va_nd perm = true) : va_P D cl ws' H1 ∧ va_D A0 ws' := by
  have at' : ∀ {is : List Nat} {w : va_W}, is.map (fun i => ws[i]?) = w.map some → ∀ (k : Nat) (q : Nat × va_E), w[k]? = some q → ∃ i, is[k]? = some i ∧ ws[i]? = some q := by
    intro is w hs k q hq
    have h1 : (is.map (fun i => ws[i]?))[k]? = some (some q) := by rw [hs, List.getElem?_map, hq]; rfl
    rw [List.getElem?_map] at h1
    cases hi : is[k]? with
    | none => rw [hi] at h1; cases h1
    | some i => rw [hi] at h1; exact ⟨i, rfl, Option.some.inj h1⟩
  have hPr : va_P D cl wr H1 := by
    intro k q hq
    obtain ⟨i, h1, h2⟩ := at' hR k q hq
    refine (hP i q h2).kept (hk q.1 (hP i q h2).lt ?_)
    rintro ⟨k2, e, h⟩
    obtain ⟨j, h3, h4⟩ := at' hC k2 (q.1, e) h
    have hij := hD.1 i j q (q.1, e) h2 h4 rfl
    subst hij
    exact hdis i (List.mem_of_getElem? h1) (List.mem_of_getElem? h3)
  have hD2 : va_D A0 (wr ++ w1) := c_Dsame (hD.sub (ws' := wr ++ wc) (isR ++ isC) hn (by rw [List.map_append, List.map_append, hC, hR])) (by rw [List.map_append, List.map_append, ha])
  exact ⟨(va_P.app hPr hP1).sub perm hp, hD2.sub perm hnp hp2⟩
section CB
variable {p : Program} {l : Launch} {e : Env} {R : Room} {s : State} {m : MethodId} {args : Array Value} {below : List Frame} {meth : Method} {c : Code} {H : Heap} {locs : List Loc} {cells slots : Nat} {Q : State → Prop} {pc : Nat} {ls : Array Slot} {rest st0 : List Value} {a : Array Value} {A0 A1 : Nat → Prop} {H0 : Heap} {mc ms : Nat} {free : Addr → Prop}
theorem c_callR {v : Option Value} (hr : va_Run p l e R s m args below meth c H locs cells slots 0 0 (F0 m pc ls st0) rest (cR v a) (fun _ => False)) (kk : W p l e R s m args below meth c H locs cells slots Q (F0 m (pc + 3) ls (v.toList ++ rest))) : W p l e R s m args below meth c H locs cells slots Q (F0 m pc ls st0) := by
  intro T hT X
  obtain ⟨v', st₀, t, T', L, h0, X', hL, e1, e2, ⟨hv, hh⟩, st⟩ := hr T hT X
  cases hv
  obtain ⟨t2, a1, b1⟩ := kk T' (by rw [e1, hh, h0]) (Stand.forget X' (fun q h => (hL q h).elim))
  exact ⟨t2, st t2 a1, b1⟩
theorem c_callB {v : Option Value} {B : Heap → Prop} (hr : va_Run p l e R s m args below meth c H locs cells slots mc ms (F0 m pc ls st0) rest (cB v B A1 a) free) (hS : va_S A0 H0 H locs) (hA : ∀ q, q < H.size → A1 q → A0 q) (hf : ∀ q, free q → A0 q)
    (kk : ∀ (H1 : Heap) (locs1 : List Loc), B H1 → H.size ≤ H1.size → (∀ q : Nat, q < H.size → ¬ A1 q → H1[q]? = H[q]?) → va_S A0 H0 H1 locs1 → W p l e R s m args below meth c H1 locs1 (cells + mc) (slots + ms) Q (F0 m (pc + 3) ls (v.toList ++ rest))) : W p l e R s m args below meth c H locs cells slots Q (F0 m pc ls st0) := by
  intro T hT X
  obtain ⟨v', st₀, t, T', L, h0, X', hL, e1, e2, ⟨⟨hv, hb⟩, hF⟩, st⟩ := hr T hT X
  cases hv
  obtain ⟨k1, k2, k3⟩ := vx_keep h0 e1 hS hA hf hL hF
  obtain ⟨t2, a1, b1⟩ := kk T'.heap (locs ++ L) (by rw [e1]; exact hb) k1 k2 k3 T' rfl X'
  exact ⟨t2, st t2 a1, b1⟩
/-- a call that returns, or throws E0 -/
theorem c_callX {v : Option Value} {B BX : Heap → Prop} {E0 : String} {AX : Nat → Prop} (hr : vx_Run p l e R s m args below meth c H locs cells slots mc ms (F0 m pc ls st0) rest (cB v B A1 a) (cX E0 BX AX) free) (hS : va_S A0 H0 H locs) (hA : ∀ q, q < H.size → A1 q → A0 q) (hf : ∀ q, free q → A0 q) (hAX : ∀ q, q < H.size → AX q → A0 q)
    (kx : ∀ (ce : Cell) (q9 : Addr) (H1 : Heap) (locs1 : List Loc), BX H1 → H.size ≤ H1.size → (∀ q : Nat, q < H.size → ¬ AX q → H1[q]? = H[q]?) → va_S A0 H0 H1 locs1 → H1[q9]? = some ce → ce.vm = .none → s.vm.findClass E0 = some ce.cls → vx_W p l e R s m args below meth c H1 locs1 (cells + mc) (slots + ms) Q (F0 m pc ls rest) q9)
    (kk : ∀ (H1 : Heap) (locs1 : List Loc), B H1 → H.size ≤ H1.size → (∀ q : Nat, q < H.size → ¬ A1 q → H1[q]? = H[q]?) → va_S A0 H0 H1 locs1 → W p l e R s m args below meth c H1 locs1 (cells + mc) (slots + ms) Q (F0 m (pc + 3) ls (v.toList ++ rest))) : W p l e R s m args below meth c H locs cells slots Q (F0 m pc ls st0) := by
  intro T hT X
  rcases hr T hT X with ⟨v', st₀, t, T', L, h0, X', hL, e1, e2, ⟨⟨hv, hb⟩, hF⟩, st⟩ | ⟨q, st₀, t, T', L, E, ce, h0, X', hL, e1, e2, ⟨⟨hE, hb⟩, hF⟩, hce, hcv, hcl, st⟩
  · cases hv
    obtain ⟨k1, k2, k3⟩ := vx_keep h0 e1 hS hA hf hL hF
    obtain ⟨t2, a1, b1⟩ := kk T'.heap (locs ++ L) (by rw [e1]; exact hb) k1 k2 k3 T' rfl X'
    exact ⟨t2, st t2 a1, b1⟩
  · subst hE
    obtain ⟨k1, k2, k3⟩ := vx_keep h0 e1 hS hAX hf hL hF
    obtain ⟨t2, a1, b1⟩ := kx ce q T'.heap (locs ++ L) (by rw [e1]; exact hb) k1 k2 k3 (by rw [e1]; exact hce) hcv hcl T' rfl X'
    exact ⟨t2, st.trans a1, b1⟩
theorem c_top {x y : Int32} (h : x = y) (k : W p l e R s m args below meth c H locs cells slots Q (F0 m pc ls (.int y :: rest))) : W p l e R s m args below meth c H locs cells slots Q (F0 m pc ls (.int x :: rest)) := h ▸ k
theorem c_topl {x y : Int64} (h : x = y) (k : W p l e R s m args below meth c H locs cells slots Q (F0 m pc ls (.long y :: rest))) : W p l e R s m args below meth c H locs cells slots Q (F0 m pc ls (.long x :: rest)) := h ▸ k
end CB
/-! the surroundings: what lies ahead of the system's cells and is never written -/
def kSl : Nat → Value := fun j => .int (if j = 0 then 10 else if j = 1 then 7 else if j = 2 then 0 else if j = 3 then -7 else -10)
def kStrs : List (Nat × String) := [(111, "metres must be 1 to 30"), (155, "it would not be safe then"), (157, "a load hangs on the boom"), (161, "side must be 0 to 3"), (164, "direction must be 0 to 7"), (166, "load must be 0 to 60"), (168, "reach must be 3 to 30"), (36, "plates must be 0 to 12"), (59, "out must be 0 to 6"), (75, "limit must be 0 to 60"), (83, "load must be 1 to 60"), (93, "no load hangs on the boom"), (96, "steps must be 1 to 8")]
abbrev xIAE : String := "java/lang/IllegalArgumentException"
abbrev xISE : String := "java/lang/IllegalStateException"
abbrev xIOB : String := "java/lang/IndexOutOfBoundsException"
def kNw (U : State) : Prop := va_Nw (.methodLinkNest RX2 21 yX0_init "CraneReach") U ∧ va_Nw (.methodLinkNest RX0 34 yX2_turned "CraneReach") U ∧ va_Nw (.methodLinkNest RX0 43 yX2_isReach "CraneReach") U
def kCa (U : State) : Prop := va_Nw (.castable xIAE xIAE) U ∧ va_Nw (.castable xISE xISE) U ∧ va_Nw (.castable xIOB xIOB) U
def kNc (U : State) : Prop := va_Nc xIAE xISE U ∧ va_Nc xIAE xIOB U ∧ va_Nc xISE xIAE U ∧ va_Nc xISE xIOB U ∧ va_Nc xIOB xIAE U ∧ va_Nc xIOB xISE U
def kE (L0 : Nat) (U : State) (H : Heap) : Prop :=
  L0 ≤ H.size ∧ vx_Zq Bundle.tN "UNASSIGNED_STACK" Bundle.steD (fun q => L0 ≤ q) U H ∧ vx_Zq Bundle.tN "SUPPRESSED_SENTINEL" Bundle.listD (fun q => L0 ≤ q) U H ∧
  (∃ t : Nat, va_Z "CraneReachModel" "SLANT" "[I" (.ref t) (fun q => L0 ≤ q) U H ∧ va_T .int t 5 kSl (fun q => L0 ≤ q) U H) ∧
  (∀ z ∈ kStrs, ∃ a, vk_R RX2 z.1 z.2 a U) ∧ kNw U ∧ kCa U ∧ kNc U
theorem kE_kept {L0 : Nat} {U : State} {H H1 : Heap} (h : kE L0 U H) (hz : H.size ≤ H1.size) (hq : ∀ q : Nat, q < L0 → H1[q]? = H[q]?) : kE L0 U H1 := by
  obtain ⟨h0, h1, h2, ⟨t, h3, h4⟩, h5⟩ := h
  have hq' : ∀ a : Nat, a < H.size → ¬ (fun q => L0 ≤ q) a → H1[a]? = H[a]? := fun a _ h => hq a (Nat.not_le.mp h)
  exact ⟨Nat.le_trans h0 hz, h1.kept hq', h2.kept hq', ⟨t, h3.kept hq', h4.kept hq'⟩, h5⟩
/-- at any heap of the method that only wrote its own cells -/
theorem kE_at {L0 : Nat} {s : State} {H : Heap} {locs : List Loc} {A : Nat → Prop} (h : kE L0 s s.heap) (hAL : ∀ q, A q → L0 ≤ q) (hS : va_S A s.heap H locs) : kE L0 s H :=
  kE_kept h hS.1 (fun q hq => hS.2.1 q (Nat.lt_of_lt_of_le hq h.1) (fun z => absurd (hAL q z) (Nat.not_le.mpr hq)))
theorem kE_moved {L0 : Nat} {s U : State} {H : Heap} (h : kE L0 s H) (hW : s.WarmedH U.vm) : kE L0 U H := by
  obtain ⟨h0, h1, h2, ⟨t, h3, h4⟩, h5, ⟨h6, h7, h8⟩, ⟨h9, h10, h11⟩, ⟨n1, n2, n3, n4, n5, n6⟩⟩ := h
  have hvm := hW.alike
  exact ⟨h0, h1.moved hvm, h2.moved hvm, ⟨t, va_Z.moved hvm h3, va_T.moved hvm h4⟩, fun z hz => by obtain ⟨a, ha⟩ := h5 z hz; exact ⟨a, ha.warm hW⟩, ⟨h6.warmM hW, h7.warmM hW, h8.warmM hW⟩, ⟨h9.warmC hW, h10.warmC hW, h11.warmC hW⟩, ⟨n1.moved hvm, n2.moved hvm, n3.moved hvm, n4.moved hvm, n5.moved hvm, n6.moved hvm⟩⟩
theorem kE_same {L0 : Nat} {s U : State} {H : Heap} (h : kE L0 s H) (hv : U.vm = s.vm) : kE L0 U H := kE_moved h (by rw [hv]; exact State.WarmedH.refl s)
/-- what every method finds: its arguments, its cells, the tables, apart and behind L0, the surroundings -/
def cP (L0 : Nat) (D : va_G) (tys : List (ClassId × FieldType)) (ws : va_W) (av : List Value) : Array Value → State → Prop :=
  va_Pc av (fun U => va_P D vwCl ws U.heap ∧ va_K D vwCl tys U ∧ va_D (fun q : Nat => L0 ≤ q) ws ∧ kE L0 U U.heap)
theorem cP_blind {L0 : Nat} {D : va_G} {tys : List (ClassId × FieldType)} {ws : va_W} {av : List Value} : FrameBlind (cP L0 D tys ws av) := by
  intro a U g mk h
  obtain ⟨h1, h2, h3, h4, h5⟩ := h
  exact ⟨h1, h2, va_K.moved (u := U) (U := U.calling g mk a) (Vm.Alike.refl U.vm) h3, h4, kE_same (s := U) h5 rfl⟩
theorem cP_of {L0 : Nat} {D : va_G} {tys : List (ClassId × FieldType)} {ws : va_W} {av : List Value} {s : State} {H : Heap} (hP : va_P D vwCl ws H) (hK : va_K D vwCl tys s) (hD : va_D (fun q : Nat => L0 ≤ q) ws) (hE : kE L0 s H) : ∀ U : State, U.heap = H → s.WarmedH U.vm → cP L0 D tys ws av av.toArray U := by
  intro U hU hW
  refine ⟨rfl, by rw [hU]; exact hP, va_K.moved hW.alike hK, hD, ?_⟩
  rw [hU]
  exact kE_moved hE hW
end
